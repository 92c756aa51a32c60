section XSX7b
variable {d : Nat} {l0 l1 l2 l3 l4 l5 l6 l7 l8 l9 l10 l11 v0 v1 v2 v3 v4 v5 : Value} {x v n x0 x1 x2 x3 x4 x5 : Int32} {w u w0 w1 w2 w3 : Int64} {a b a0 a1 a2 : Nat} {ls st : List Value} {h : xe_H} {Q : Option Value → xe_H → Prop}
theorem xs_131_0 : xe_P d 131 0 [.ref a, l1] st h Q = xe_P d 131 1 [.ref a, l1] (.ref a :: st) h Q := xe_P_lo (ins := .aload_n 0) (len := 1) (by decide +kernel) rfl rfl
theorem xs_131_1 : xe_P d 131 1 ls (.ref a :: st) h Q = (xe_ob h a 7 ∧ xe_P d 131 4 ls (va_rf (xe_R h a 2) :: st) h Q) := xe_P_getR (i := 17) (by decide +kernel) (by decide +kernel) (by decide) rfl
theorem xs_131_4 : xe_P d 131 4 ls st h Q = xe_P d 131 6 ls (.int 31 :: st) h Q := xe_P_ar (ins := .bipush 31) (len := 2) (by decide +kernel) rfl
theorem xs_131_6 : xe_P d 131 6 ls (.int v :: .ref a :: st) h Q = ((xe_ia h a ∧ xe_ix h a v) ∧ xe_P d 131 7 ls (.int (xe_I h a v.toNatClampNeg) :: st) h Q) := xe_P_iald (by decide +kernel)
theorem xs_131_7 : xe_P d 131 7 [l0, l1] (.int x :: st) h Q = xe_P d 131 8 [xe_cut l0, .int x] st h Q := xe_P_lo (ins := .istore_n 1) (len := 1) (by decide +kernel) rfl rfl
theorem xs_131_8 : xe_P d 131 8 [l0, .int x] st h Q = xe_P d 131 9 [l0, .int x] (.int x :: st) h Q := xe_P_lo (ins := .iload_n 1) (len := 1) (by decide +kernel) rfl rfl
theorem xs_131_9 : xe_P d 131 9 ls st h Q = xe_P d 131 10 ls (.int 3 :: st) h Q := xe_P_ar (ins := .iconst 3) (len := 1) (by decide +kernel) rfl
theorem xs_131_10 : xe_P d 131 10 ls (.int v :: .int x :: st) h Q = (if x = v then xe_P d 131 13 ls st h Q else xe_P d 131 19 ls st h Q) := xe_P_ifn (ins := .if_icmp .ne 9) (len := 3) (off := 9) (by decide +kernel) (by decide) rfl rfl rfl
theorem xs_131_13 : xe_P d 131 13 [.ref a, l1] st h Q = xe_P d 131 14 [.ref a, l1] (.ref a :: st) h Q := xe_P_lo (ins := .aload_n 0) (len := 1) (by decide +kernel) rfl rfl
theorem xs_131_14 : xe_P d 131 14 ls st h Q = xe_P d 131 15 ls (.int 5 :: st) h Q := xe_P_ar (ins := .iconst 5) (len := 1) (by decide +kernel) rfl
theorem xs_131_15 : xe_P d 131 15 ls (v0 :: .ref a :: st) h Q = ((xe_w st ≤ 8 ∧ xe_ob h a 7) ∧ xe_C d 124 [.ref a, v0] h (fun r h' => xe_P d 131 18 ls (r.toList ++ st) h' Q)) := xe_P_ivv (y := 131) (pc := 15) (z := 124) (i := 122) (vs := [v0]) (by decide +kernel) (by decide +kernel) rfl (by decide +kernel)
theorem xs_131_18 : xe_P d 131 18 ls [] h Q = Q none h := xe_P_vreturn (by decide +kernel) rfl
theorem xs_131_19 : xe_P d 131 19 [.ref a, l1] st h Q = xe_P d 131 20 [.ref a, l1] (.ref a :: st) h Q := xe_P_lo (ins := .aload_n 0) (len := 1) (by decide +kernel) rfl rfl
theorem xs_131_20 : xe_P d 131 20 ls (.ref a :: st) h Q = ((xe_w st ≤ 8 ∧ xe_ob h a 7) ∧ xe_C d 126 [.ref a] h (fun r h' => xe_P d 131 23 ls (r.toList ++ st) h' Q)) := xe_P_ivv (y := 131) (pc := 20) (z := 126) (i := 126) (vs := []) (by decide +kernel) (by decide +kernel) rfl (by decide +kernel)
theorem xs_131_23 : xe_P d 131 23 [.ref a, l1] st h Q = xe_P d 131 24 [.ref a, l1] (.ref a :: st) h Q := xe_P_lo (ins := .aload_n 0) (len := 1) (by decide +kernel) rfl rfl
theorem xs_131_24 : xe_P d 131 24 ls (.ref a :: st) h Q = (xe_ob h a 7 ∧ xe_P d 131 27 ls (va_rf (xe_R h a 2) :: st) h Q) := xe_P_getR (i := 17) (by decide +kernel) (by decide +kernel) (by decide) rfl
theorem xs_131_27 : xe_P d 131 27 ls st h Q = xe_P d 131 29 ls (.int 25 :: st) h Q := xe_P_ar (ins := .bipush 25) (len := 2) (by decide +kernel) rfl
theorem xs_131_29 : xe_P d 131 29 ls st h Q = xe_P d 131 30 ls (.int 2 :: st) h Q := xe_P_ar (ins := .iconst 2) (len := 1) (by decide +kernel) rfl
theorem xs_131_30 : xe_P d 131 30 [l0, .int x] st h Q = xe_P d 131 31 [l0, .int x] (.int x :: st) h Q := xe_P_lo (ins := .iload_n 1) (len := 1) (by decide +kernel) rfl rfl
theorem xs_131_31 : xe_P d 131 31 ls (.int v :: .int x :: st) h Q = xe_P d 131 32 ls (.int (x * v) :: st) h Q := xe_P_ar (ins := .imul) (len := 1) (by decide +kernel) rfl
theorem xs_131_32 : xe_P d 131 32 ls (.int v :: .int x :: st) h Q = xe_P d 131 33 ls (.int (x + v) :: st) h Q := xe_P_ar (ins := .iadd) (len := 1) (by decide +kernel) rfl
theorem xs_131_33 : xe_P d 131 33 [.ref a, l1] st h Q = xe_P d 131 34 [.ref a, l1] (.ref a :: st) h Q := xe_P_lo (ins := .aload_n 0) (len := 1) (by decide +kernel) rfl rfl
theorem xs_131_34 : xe_P d 131 34 ls st h Q = xe_P d 131 35 ls (.int 0 :: st) h Q := xe_P_ar (ins := .iconst 0) (len := 1) (by decide +kernel) rfl
theorem xs_131_35 : xe_P d 131 35 ls (v0 :: .ref a :: st) h Q = ((xe_w st ≤ 8 ∧ xe_ob h a 7) ∧ xe_C d 128 [.ref a, v0] h (fun r h' => xe_P d 131 38 ls (r.toList ++ st) h' Q)) := xe_P_ivv (y := 131) (pc := 35) (z := 128) (i := 139) (vs := [v0]) (by decide +kernel) (by decide +kernel) rfl (by decide +kernel)
theorem xs_131_38 : xe_P d 131 38 ls (.int x :: .int v :: .ref a :: st) h Q = ((xe_ob h a 8 ∧ xe_ix h a v) ∧ xe_P d 131 39 ls st (xe_sI h a v.toNatClampNeg x) Q) := xe_P_iast (by decide +kernel)
theorem xs_131_39 : xe_P d 131 39 [.ref a, l1] st h Q = xe_P d 131 40 [.ref a, l1] (.ref a :: st) h Q := xe_P_lo (ins := .aload_n 0) (len := 1) (by decide +kernel) rfl rfl
theorem xs_131_40 : xe_P d 131 40 ls (.ref a :: st) h Q = (xe_ob h a 7 ∧ xe_P d 131 43 ls (va_rf (xe_R h a 2) :: st) h Q) := xe_P_getR (i := 17) (by decide +kernel) (by decide +kernel) (by decide) rfl
theorem xs_131_43 : xe_P d 131 43 ls st h Q = xe_P d 131 45 ls (.int 25 :: st) h Q := xe_P_ar (ins := .bipush 25) (len := 2) (by decide +kernel) rfl
theorem xs_131_45 : xe_P d 131 45 ls st h Q = xe_P d 131 46 ls (.int 2 :: st) h Q := xe_P_ar (ins := .iconst 2) (len := 1) (by decide +kernel) rfl
theorem xs_131_46 : xe_P d 131 46 [l0, .int x] st h Q = xe_P d 131 47 [l0, .int x] (.int x :: st) h Q := xe_P_lo (ins := .iload_n 1) (len := 1) (by decide +kernel) rfl rfl
theorem xs_131_47 : xe_P d 131 47 ls (.int v :: .int x :: st) h Q = xe_P d 131 48 ls (.int (x * v) :: st) h Q := xe_P_ar (ins := .imul) (len := 1) (by decide +kernel) rfl
theorem xs_131_48 : xe_P d 131 48 ls (.int v :: .int x :: st) h Q = xe_P d 131 49 ls (.int (x + v) :: st) h Q := xe_P_ar (ins := .iadd) (len := 1) (by decide +kernel) rfl
theorem xs_131_49 : xe_P d 131 49 ls st h Q = xe_P d 131 50 ls (.int 1 :: st) h Q := xe_P_ar (ins := .iconst 1) (len := 1) (by decide +kernel) rfl
theorem xs_131_50 : xe_P d 131 50 ls (.int v :: .int x :: st) h Q = xe_P d 131 51 ls (.int (x + v) :: st) h Q := xe_P_ar (ins := .iadd) (len := 1) (by decide +kernel) rfl
theorem xs_131_51 : xe_P d 131 51 [.ref a, l1] st h Q = xe_P d 131 52 [.ref a, l1] (.ref a :: st) h Q := xe_P_lo (ins := .aload_n 0) (len := 1) (by decide +kernel) rfl rfl
theorem xs_131_52 : xe_P d 131 52 ls st h Q = xe_P d 131 53 ls (.int 0 :: st) h Q := xe_P_ar (ins := .iconst 0) (len := 1) (by decide +kernel) rfl
theorem xs_131_53 : xe_P d 131 53 ls (v0 :: .ref a :: st) h Q = ((xe_w st ≤ 8 ∧ xe_ob h a 7) ∧ xe_C d 128 [.ref a, v0] h (fun r h' => xe_P d 131 56 ls (r.toList ++ st) h' Q)) := xe_P_ivv (y := 131) (pc := 53) (z := 128) (i := 139) (vs := [v0]) (by decide +kernel) (by decide +kernel) rfl (by decide +kernel)
theorem xs_131_56 : xe_P d 131 56 ls (.int x :: .int v :: .ref a :: st) h Q = ((xe_ob h a 8 ∧ xe_ix h a v) ∧ xe_P d 131 57 ls st (xe_sI h a v.toNatClampNeg x) Q) := xe_P_iast (by decide +kernel)
theorem xs_131_57 : xe_P d 131 57 [.ref a, l1] st h Q = xe_P d 131 58 [.ref a, l1] (.ref a :: st) h Q := xe_P_lo (ins := .aload_n 0) (len := 1) (by decide +kernel) rfl rfl
theorem xs_131_58 : xe_P d 131 58 ls (.ref a :: st) h Q = (xe_ob h a 7 ∧ xe_P d 131 61 ls (va_rf (xe_R h a 2) :: st) h Q) := xe_P_getR (i := 17) (by decide +kernel) (by decide +kernel) (by decide) rfl
theorem xs_131_61 : xe_P d 131 61 ls st h Q = xe_P d 131 63 ls (.int 31 :: st) h Q := xe_P_ar (ins := .bipush 31) (len := 2) (by decide +kernel) rfl
theorem xs_131_63 : xe_P d 131 63 ls (.int v :: .ref a :: st) h Q = xe_P d 131 64 ls (.int v :: .ref a :: .int v :: .ref a :: st) h Q := xe_P_ar (ins := .dup2) (len := 1) (by decide +kernel) rfl
theorem xs_131_64 : xe_P d 131 64 ls (.int v :: .ref a :: st) h Q = ((xe_ia h a ∧ xe_ix h a v) ∧ xe_P d 131 65 ls (.int (xe_I h a v.toNatClampNeg) :: st) h Q) := xe_P_iald (by decide +kernel)
theorem xs_131_65 : xe_P d 131 65 ls st h Q = xe_P d 131 66 ls (.int 1 :: st) h Q := xe_P_ar (ins := .iconst 1) (len := 1) (by decide +kernel) rfl
theorem xs_131_66 : xe_P d 131 66 ls (.int v :: .int x :: st) h Q = xe_P d 131 67 ls (.int (x + v) :: st) h Q := xe_P_ar (ins := .iadd) (len := 1) (by decide +kernel) rfl
theorem xs_131_67 : xe_P d 131 67 ls (.int x :: .int v :: .ref a :: st) h Q = ((xe_ob h a 8 ∧ xe_ix h a v) ∧ xe_P d 131 68 ls st (xe_sI h a v.toNatClampNeg x) Q) := xe_P_iast (by decide +kernel)
theorem xs_131_68 : xe_P d 131 68 ls [] h Q = Q none h := xe_P_vreturn (by decide +kernel) rfl
theorem xs_131 : xe_C (d + 1) 131 [.ref a] h Q = xe_P d 131 0 [.ref a, .retAddr 0] [] h Q := xe_C_at (Nat.le_of_ble_eq_true rfl) rfl
theorem xs_132_0 : xe_P d 132 0 [.ref a, l1] st h Q = xe_P d 132 1 [.ref a, l1] (.ref a :: st) h Q := xe_P_lo (ins := .aload_n 0) (len := 1) (by decide +kernel) rfl rfl
theorem xs_132_1 : xe_P d 132 1 ls (.ref a :: st) h Q = (xe_ob h a 7 ∧ xe_P d 132 4 ls (.int (xe_I h a 4) :: st) h Q) := xe_P_getI (i := 142) (by decide +kernel) (by decide +kernel) (by decide) rfl
theorem xs_132_4 : xe_P d 132 4 [l0, .int x] st h Q = xe_P d 132 5 [l0, .int x] (.int x :: st) h Q := xe_P_lo (ins := .iload_n 1) (len := 1) (by decide +kernel) rfl rfl
theorem xs_132_5 : xe_P d 132 5 ls (.int v :: .int x :: st) h Q = xe_P d 132 6 ls (.int (x >>> (v &&& 31)) :: st) h Q := xe_P_ar (ins := .ishr) (len := 1) (by decide +kernel) rfl
theorem xs_132_6 : xe_P d 132 6 ls st h Q = xe_P d 132 7 ls (.int 1 :: st) h Q := xe_P_ar (ins := .iconst 1) (len := 1) (by decide +kernel) rfl
theorem xs_132_7 : xe_P d 132 7 ls (.int v :: .int x :: st) h Q = xe_P d 132 8 ls (.int (x &&& v) :: st) h Q := xe_P_ar (ins := .iand) (len := 1) (by decide +kernel) rfl
theorem xs_132_8 : xe_P d 132 8 ls st h Q = xe_P d 132 9 ls (.int 1 :: st) h Q := xe_P_ar (ins := .iconst 1) (len := 1) (by decide +kernel) rfl
theorem xs_132_9 : xe_P d 132 9 ls (.int v :: .int x :: st) h Q = (if x = v then xe_P d 132 12 ls st h Q else xe_P d 132 17 ls st h Q) := xe_P_ifn (ins := .if_icmp .ne 8) (len := 3) (off := 8) (by decide +kernel) (by decide) rfl rfl rfl
theorem xs_132_12 : xe_P d 132 12 [.ref a, l1] st h Q = xe_P d 132 13 [.ref a, l1] (.ref a :: st) h Q := xe_P_lo (ins := .aload_n 0) (len := 1) (by decide +kernel) rfl rfl
theorem xs_132_13 : xe_P d 132 13 ls st h Q = xe_P d 132 14 ls (.int 4 :: st) h Q := xe_P_ar (ins := .iconst 4) (len := 1) (by decide +kernel) rfl
theorem xs_132_14 : xe_P d 132 14 ls (v0 :: .ref a :: st) h Q = ((xe_w st ≤ 8 ∧ xe_ob h a 7) ∧ xe_C d 124 [.ref a, v0] h (fun r h' => xe_P d 132 17 ls (r.toList ++ st) h' Q)) := xe_P_ivv (y := 132) (pc := 14) (z := 124) (i := 122) (vs := [v0]) (by decide +kernel) (by decide +kernel) rfl (by decide +kernel)
theorem xs_132_17 : xe_P d 132 17 [.ref a, l1] st h Q = xe_P d 132 18 [.ref a, l1] (.ref a :: st) h Q := xe_P_lo (ins := .aload_n 0) (len := 1) (by decide +kernel) rfl rfl
theorem xs_132_18 : xe_P d 132 18 ls (.ref a :: st) h Q = xe_P d 132 19 ls (.ref a :: .ref a :: st) h Q := xe_P_ar (ins := .dup) (len := 1) (by decide +kernel) rfl
theorem xs_132_18i : xe_P d 132 18 ls (.int x :: st) h Q = xe_P d 132 19 ls (.int x :: .int x :: st) h Q := xe_P_ar (ins := .dup) (len := 1) (by decide +kernel) rfl
theorem xs_132_19 : xe_P d 132 19 ls (.ref a :: st) h Q = (xe_ob h a 7 ∧ xe_P d 132 22 ls (.int (xe_I h a 4) :: st) h Q) := xe_P_getI (i := 142) (by decide +kernel) (by decide +kernel) (by decide) rfl
theorem xs_132_22 : xe_P d 132 22 ls st h Q = xe_P d 132 23 ls (.int 1 :: st) h Q := xe_P_ar (ins := .iconst 1) (len := 1) (by decide +kernel) rfl
theorem xs_132_23 : xe_P d 132 23 [l0, .int x] st h Q = xe_P d 132 24 [l0, .int x] (.int x :: st) h Q := xe_P_lo (ins := .iload_n 1) (len := 1) (by decide +kernel) rfl rfl
theorem xs_132_24 : xe_P d 132 24 ls (.int v :: .int x :: st) h Q = xe_P d 132 25 ls (.int (x <<< (v &&& 31)) :: st) h Q := xe_P_ar (ins := .ishl) (len := 1) (by decide +kernel) rfl
theorem xs_132_25 : xe_P d 132 25 ls (.int v :: .int x :: st) h Q = xe_P d 132 26 ls (.int (x ||| v) :: st) h Q := xe_P_ar (ins := .ior) (len := 1) (by decide +kernel) rfl
theorem xs_132_26 : xe_P d 132 26 ls (.int v :: .ref a :: st) h Q = (xe_ob h a 7 ∧ xe_P d 132 29 ls st (xe_sI h a 4 v) Q) := xe_P_putI (i := 142) (by decide +kernel) (by decide +kernel) (by decide) (by decide +kernel) rfl
theorem xs_132_29 : xe_P d 132 29 [.ref a, l1] st h Q = xe_P d 132 30 [.ref a, l1] (.ref a :: st) h Q := xe_P_lo (ins := .aload_n 0) (len := 1) (by decide +kernel) rfl rfl
theorem xs_132_30 : xe_P d 132 30 ls (.ref a :: st) h Q = ((xe_w st ≤ 8 ∧ xe_ob h a 7) ∧ xe_C d 126 [.ref a] h (fun r h' => xe_P d 132 33 ls (r.toList ++ st) h' Q)) := xe_P_ivv (y := 132) (pc := 30) (z := 126) (i := 126) (vs := []) (by decide +kernel) (by decide +kernel) rfl (by decide +kernel)
theorem xs_132_33 : xe_P d 132 33 [l0, .int x] st h Q = xe_P d 132 34 [l0, .int x] (.int x :: st) h Q := xe_P_lo (ins := .iload_n 1) (len := 1) (by decide +kernel) rfl rfl
theorem xs_132_34 : xe_P d 132 34 ls (.int x :: st) h Q = (if x = 0 then xe_P d 132 37 ls st h Q else xe_P d 132 51 ls st h Q) := xe_P_ifn (ins := .ifCond .ne 17) (len := 3) (off := 17) (by decide +kernel) (by decide) rfl rfl rfl
theorem xs_132_37 : xe_P d 132 37 [.ref a, l1] st h Q = xe_P d 132 38 [.ref a, l1] (.ref a :: st) h Q := xe_P_lo (ins := .aload_n 0) (len := 1) (by decide +kernel) rfl rfl
theorem xs_132_38 : xe_P d 132 38 [.ref a, l1] st h Q = xe_P d 132 39 [.ref a, l1] (.ref a :: st) h Q := xe_P_lo (ins := .aload_n 0) (len := 1) (by decide +kernel) rfl rfl
theorem xs_132_39 : xe_P d 132 39 ls st h Q = xe_P d 132 40 ls (.int 2 :: st) h Q := xe_P_ar (ins := .iconst 2) (len := 1) (by decide +kernel) rfl
theorem xs_132_40 : xe_P d 132 40 ls st h Q = xe_P d 132 41 ls (.int 5 :: st) h Q := xe_P_ar (ins := .iconst 5) (len := 1) (by decide +kernel) rfl
theorem xs_132_41 : xe_P d 132 41 ls st h Q = xe_P d 132 42 ls (.int 0 :: st) h Q := xe_P_ar (ins := .iconst 0) (len := 1) (by decide +kernel) rfl
theorem xs_132_42 : xe_P d 132 42 ls (v2 :: v1 :: v0 :: .ref a :: st) h Q = ((xe_w st ≤ 8 ∧ xe_ob h a 7) ∧ xe_C d 127 [.ref a, v0, v1, v2] h (fun r h' => xe_P d 132 45 ls (r.toList ++ st) h' Q)) := xe_P_ivv (y := 132) (pc := 42) (z := 127) (i := 129) (vs := [v2, v1, v0]) (by decide +kernel) (by decide +kernel) rfl (by decide +kernel)
theorem xs_132_45 : xe_P d 132 45 ls (.int v :: .ref a :: st) h Q = (xe_ob h a 7 ∧ xe_P d 132 48 ls st (xe_sI h a 3 v) Q) := xe_P_putI (i := 145) (by decide +kernel) (by decide +kernel) (by decide) (by decide +kernel) rfl
theorem xs_132_48 : xe_P d 132 48 ls st h Q = xe_P d 132 89 ls st h Q := xe_P_go (len := 3) (off := 41) (by decide +kernel) (by decide)
theorem xs_132_51 : xe_P d 132 51 [l0, .int x] st h Q = xe_P d 132 52 [l0, .int x] (.int x :: st) h Q := xe_P_lo (ins := .iload_n 1) (len := 1) (by decide +kernel) rfl rfl
theorem xs_132_52 : xe_P d 132 52 ls st h Q = xe_P d 132 53 ls (.int 1 :: st) h Q := xe_P_ar (ins := .iconst 1) (len := 1) (by decide +kernel) rfl
theorem xs_132_53 : xe_P d 132 53 ls (.int v :: .int x :: st) h Q = (if x = v then xe_P d 132 56 ls st h Q else xe_P d 132 75 ls st h Q) := xe_P_ifn (ins := .if_icmp .ne 22) (len := 3) (off := 22) (by decide +kernel) (by decide) rfl rfl rfl
theorem xs_132_56 : xe_P d 132 56 [.ref a, l1] st h Q = xe_P d 132 57 [.ref a, l1] (.ref a :: st) h Q := xe_P_lo (ins := .aload_n 0) (len := 1) (by decide +kernel) rfl rfl
theorem xs_132_57 : xe_P d 132 57 ls (.ref a :: st) h Q = (xe_ob h a 7 ∧ xe_P d 132 60 ls (va_rf (xe_R h a 2) :: st) h Q) := xe_P_getR (i := 17) (by decide +kernel) (by decide +kernel) (by decide) rfl
theorem xs_132_60 : xe_P d 132 60 ls st h Q = xe_P d 132 62 ls (.int 33 :: st) h Q := xe_P_ar (ins := .bipush 33) (len := 2) (by decide +kernel) rfl
theorem xs_132_62 : xe_P d 132 62 [.ref a, l1] st h Q = xe_P d 132 63 [.ref a, l1] (.ref a :: st) h Q := xe_P_lo (ins := .aload_n 0) (len := 1) (by decide +kernel) rfl rfl
theorem xs_132_63 : xe_P d 132 63 ls st h Q = xe_P d 132 64 ls (.int 1 :: st) h Q := xe_P_ar (ins := .iconst 1) (len := 1) (by decide +kernel) rfl
theorem xs_132_64 : xe_P d 132 64 ls st h Q = xe_P d 132 65 ls (.int 3 :: st) h Q := xe_P_ar (ins := .iconst 3) (len := 1) (by decide +kernel) rfl
theorem xs_132_65 : xe_P d 132 65 ls st h Q = xe_P d 132 66 ls (.int 0 :: st) h Q := xe_P_ar (ins := .iconst 0) (len := 1) (by decide +kernel) rfl
theorem xs_132_66 : xe_P d 132 66 ls (v2 :: v1 :: v0 :: .ref a :: st) h Q = ((xe_w st ≤ 8 ∧ xe_ob h a 7) ∧ xe_C d 127 [.ref a, v0, v1, v2] h (fun r h' => xe_P d 132 69 ls (r.toList ++ st) h' Q)) := xe_P_ivv (y := 132) (pc := 66) (z := 127) (i := 129) (vs := [v2, v1, v0]) (by decide +kernel) (by decide +kernel) rfl (by decide +kernel)
theorem xs_132_69 : xe_P d 132 69 ls st h Q = xe_P d 132 70 ls (.int 2 :: st) h Q := xe_P_ar (ins := .iconst 2) (len := 1) (by decide +kernel) rfl
theorem xs_132_70 : xe_P d 132 70 ls (.int v :: .int x :: st) h Q = xe_P d 132 71 ls (.int (x - v) :: st) h Q := xe_P_ar (ins := .isub) (len := 1) (by decide +kernel) rfl
theorem xs_132_71 : xe_P d 132 71 ls (.int x :: .int v :: .ref a :: st) h Q = ((xe_ob h a 8 ∧ xe_ix h a v) ∧ xe_P d 132 72 ls st (xe_sI h a v.toNatClampNeg x) Q) := xe_P_iast (by decide +kernel)
theorem xs_132_72 : xe_P d 132 72 ls st h Q = xe_P d 132 89 ls st h Q := xe_P_go (len := 3) (off := 17) (by decide +kernel) (by decide)
theorem xs_132_75 : xe_P d 132 75 [.ref a, l1] st h Q = xe_P d 132 76 [.ref a, l1] (.ref a :: st) h Q := xe_P_lo (ins := .aload_n 0) (len := 1) (by decide +kernel) rfl rfl
theorem xs_132_76 : xe_P d 132 76 ls (.ref a :: st) h Q = (xe_ob h a 7 ∧ xe_P d 132 79 ls (va_rf (xe_R h a 2) :: st) h Q) := xe_P_getR (i := 17) (by decide +kernel) (by decide +kernel) (by decide) rfl
theorem xs_132_79 : xe_P d 132 79 ls st h Q = xe_P d 132 81 ls (.int 32 :: st) h Q := xe_P_ar (ins := .bipush 32) (len := 2) (by decide +kernel) rfl
theorem xs_132_81 : xe_P d 132 81 [.ref a, l1] st h Q = xe_P d 132 82 [.ref a, l1] (.ref a :: st) h Q := xe_P_lo (ins := .aload_n 0) (len := 1) (by decide +kernel) rfl rfl
theorem xs_132_82 : xe_P d 132 82 ls st h Q = xe_P d 132 83 ls (.int 0 :: st) h Q := xe_P_ar (ins := .iconst 0) (len := 1) (by decide +kernel) rfl
theorem xs_132_83 : xe_P d 132 83 ls st h Q = xe_P d 132 84 ls (.int 2 :: st) h Q := xe_P_ar (ins := .iconst 2) (len := 1) (by decide +kernel) rfl
theorem xs_132_84 : xe_P d 132 84 ls st h Q = xe_P d 132 85 ls (.int 0 :: st) h Q := xe_P_ar (ins := .iconst 0) (len := 1) (by decide +kernel) rfl
theorem xs_132_85 : xe_P d 132 85 ls (v2 :: v1 :: v0 :: .ref a :: st) h Q = ((xe_w st ≤ 8 ∧ xe_ob h a 7) ∧ xe_C d 127 [.ref a, v0, v1, v2] h (fun r h' => xe_P d 132 88 ls (r.toList ++ st) h' Q)) := xe_P_ivv (y := 132) (pc := 85) (z := 127) (i := 129) (vs := [v2, v1, v0]) (by decide +kernel) (by decide +kernel) rfl (by decide +kernel)
theorem xs_132_88 : xe_P d 132 88 ls (.int x :: .int v :: .ref a :: st) h Q = ((xe_ob h a 8 ∧ xe_ix h a v) ∧ xe_P d 132 89 ls st (xe_sI h a v.toNatClampNeg x) Q) := xe_P_iast (by decide +kernel)
theorem xs_132_89 : xe_P d 132 89 ls [] h Q = Q none h := xe_P_vreturn (by decide +kernel) rfl
theorem xs_132 : xe_C (d + 1) 132 [.ref a, .int x0] h Q = xe_P d 132 0 [.ref a, .int x0] [] h Q := xe_C_at (Nat.le_of_ble_eq_true rfl) rfl
theorem xs_133_0 : xe_P d 133 0 [.ref a, l1, l2] st h Q = xe_P d 133 1 [.ref a, l1, l2] (.ref a :: st) h Q := xe_P_lo (ins := .aload_n 0) (len := 1) (by decide +kernel) rfl rfl
theorem xs_133_1 : xe_P d 133 1 ls (.ref a :: st) h Q = ((xe_w st ≤ 8 ∧ xe_ob h a 7) ∧ xe_C d 125 [.ref a] h (fun r h' => xe_P d 133 4 ls (r.toList ++ st) h' Q)) := xe_P_ivv (y := 133) (pc := 1) (z := 125) (i := 148) (vs := []) (by decide +kernel) (by decide +kernel) rfl (by decide +kernel)
theorem xs_133_4 : xe_P d 133 4 [l0, l1, l2] (.int x :: st) h Q = xe_P d 133 5 [xe_cut l0, .int x, l2] st h Q := xe_P_lo (ins := .istore_n 1) (len := 1) (by decide +kernel) rfl rfl
theorem xs_133_5 : xe_P d 133 5 [l0, .int x, l2] st h Q = xe_P d 133 6 [l0, .int x, l2] (.int x :: st) h Q := xe_P_lo (ins := .iload_n 1) (len := 1) (by decide +kernel) rfl rfl
theorem xs_133_6 : xe_P d 133 6 ls (.int x :: st) h Q = xe_P d 133 7 ls (.long x.toInt64 :: st) h Q := xe_P_ar (ins := .i2l) (len := 1) (by decide +kernel) rfl
theorem xs_133_7 : xe_P d 133 7 ls st h Q = xe_P d 133 8 ls (.long 0 :: st) h Q := xe_P_ar (ins := .lconst 0) (len := 1) (by decide +kernel) rfl
theorem xs_133_8 : xe_P d 133 8 ls st h Q = xe_P d 133 11 ls (.long 6 :: st) h Q := xe_P_ldc2 (j := 152) (by decide +kernel) (by decide +kernel)
theorem xs_133_11 : xe_P d 133 11 ls (v2 :: v1 :: v0 :: st) h Q = (xe_w st ≤ 8 ∧ xe_C d 120 [v0, v1, v2] h (fun r h' => xe_P d 133 14 ls (r.toList ++ st) h' Q)) := xe_P_ivs (y := 133) (pc := 11) (z := 120) (i := 88) (vs := [v2, v1, v0]) (by decide +kernel) (by decide +kernel) rfl
theorem xs_133_14 : xe_P d 133 14 ls (.int x :: st) h Q = (if x = 0 then xe_P d 133 17 ls st h Q else xe_P d 133 23 ls st h Q) := xe_P_ifn (ins := .ifCond .ne 9) (len := 3) (off := 9) (by decide +kernel) (by decide) rfl rfl rfl
theorem xs_133_17 : xe_P d 133 17 [.ref a, l1, l2] st h Q = xe_P d 133 18 [.ref a, l1, l2] (.ref a :: st) h Q := xe_P_lo (ins := .aload_n 0) (len := 1) (by decide +kernel) rfl rfl
theorem xs_133_18 : xe_P d 133 18 ls st h Q = xe_P d 133 19 ls (.int 2 :: st) h Q := xe_P_ar (ins := .iconst 2) (len := 1) (by decide +kernel) rfl
theorem xs_133_19 : xe_P d 133 19 ls (v0 :: .ref a :: st) h Q = ((xe_w st ≤ 8 ∧ xe_ob h a 7) ∧ xe_C d 124 [.ref a, v0] h (fun r h' => xe_P d 133 22 ls (r.toList ++ st) h' Q)) := xe_P_ivv (y := 133) (pc := 19) (z := 124) (i := 122) (vs := [v0]) (by decide +kernel) (by decide +kernel) rfl (by decide +kernel)
theorem xs_133_22 : xe_P d 133 22 ls [] h Q = Q none h := xe_P_vreturn (by decide +kernel) rfl
theorem xs_133_23 : xe_P d 133 23 [l0, .int x, l2] st h Q = xe_P d 133 24 [l0, .int x, l2] (.int x :: st) h Q := xe_P_lo (ins := .iload_n 1) (len := 1) (by decide +kernel) rfl rfl
theorem xs_133_24 : xe_P d 133 24 ls st h Q = xe_P d 133 25 ls (.int 3 :: st) h Q := xe_P_ar (ins := .iconst 3) (len := 1) (by decide +kernel) rfl
theorem xs_133_25 : xe_P d 133 25 ls (.int v :: .int x :: st) h Q = (if x = v then xe_P d 133 28 ls st h Q else xe_P d 133 35 ls st h Q) := xe_P_ifn (ins := .if_icmp .ne 10) (len := 3) (off := 10) (by decide +kernel) (by decide) rfl rfl rfl
theorem xs_133_28 : xe_P d 133 28 [.ref a, l1, l2] st h Q = xe_P d 133 29 [.ref a, l1, l2] (.ref a :: st) h Q := xe_P_lo (ins := .aload_n 0) (len := 1) (by decide +kernel) rfl rfl
theorem xs_133_29 : xe_P d 133 29 ls (.ref a :: st) h Q = ((xe_w st ≤ 8 ∧ xe_ob h a 7) ∧ xe_C d 130 [.ref a] h (fun r h' => xe_P d 133 32 ls (r.toList ++ st) h' Q)) := xe_P_ivv (y := 133) (pc := 29) (z := 130) (i := 154) (vs := []) (by decide +kernel) (by decide +kernel) rfl (by decide +kernel)
theorem xs_133_32 : xe_P d 133 32 ls st h Q = xe_P d 133 145 ls st h Q := xe_P_go (len := 3) (off := 113) (by decide +kernel) (by decide)
theorem xs_133_35 : xe_P d 133 35 [l0, .int x, l2] st h Q = xe_P d 133 36 [l0, .int x, l2] (.int x :: st) h Q := xe_P_lo (ins := .iload_n 1) (len := 1) (by decide +kernel) rfl rfl
theorem xs_133_36 : xe_P d 133 36 ls st h Q = xe_P d 133 38 ls (.int 6 :: st) h Q := xe_P_ar (ins := .bipush 6) (len := 2) (by decide +kernel) rfl
theorem xs_133_38 : xe_P d 133 38 ls (.int v :: .int x :: st) h Q = (if x = v then xe_P d 133 41 ls st h Q else xe_P d 133 48 ls st h Q) := xe_P_ifn (ins := .if_icmp .ne 10) (len := 3) (off := 10) (by decide +kernel) (by decide) rfl rfl rfl
theorem xs_133_41 : xe_P d 133 41 [.ref a, l1, l2] st h Q = xe_P d 133 42 [.ref a, l1, l2] (.ref a :: st) h Q := xe_P_lo (ins := .aload_n 0) (len := 1) (by decide +kernel) rfl rfl
theorem xs_133_42 : xe_P d 133 42 ls (.ref a :: st) h Q = ((xe_w st ≤ 8 ∧ xe_ob h a 7) ∧ xe_C d 131 [.ref a] h (fun r h' => xe_P d 133 45 ls (r.toList ++ st) h' Q)) := xe_P_ivv (y := 133) (pc := 42) (z := 131) (i := 157) (vs := []) (by decide +kernel) (by decide +kernel) rfl (by decide +kernel)
theorem xs_133_45 : xe_P d 133 45 ls st h Q = xe_P d 133 145 ls st h Q := xe_P_go (len := 3) (off := 100) (by decide +kernel) (by decide)
theorem xs_133_48 : xe_P d 133 48 [l0, .int x, l2] st h Q = xe_P d 133 49 [l0, .int x, l2] (.int x :: st) h Q := xe_P_lo (ins := .iload_n 1) (len := 1) (by decide +kernel) rfl rfl
theorem xs_133_49 : xe_P d 133 49 ls st h Q = xe_P d 133 50 ls (.int 4 :: st) h Q := xe_P_ar (ins := .iconst 4) (len := 1) (by decide +kernel) rfl
theorem xs_133_50 : xe_P d 133 50 ls (.int v :: .int x :: st) h Q = (if x = v then xe_P d 133 53 ls st h Q else xe_P d 133 94 ls st h Q) := xe_P_ifn (ins := .if_icmp .ne 44) (len := 3) (off := 44) (by decide +kernel) (by decide) rfl rfl rfl
theorem xs_133_53 : xe_P d 133 53 [.ref a, l1, l2] st h Q = xe_P d 133 54 [.ref a, l1, l2] (.ref a :: st) h Q := xe_P_lo (ins := .aload_n 0) (len := 1) (by decide +kernel) rfl rfl
theorem xs_133_54 : xe_P d 133 54 ls (.ref a :: st) h Q = ((xe_w st ≤ 8 ∧ xe_ob h a 7) ∧ xe_C d 126 [.ref a] h (fun r h' => xe_P d 133 57 ls (r.toList ++ st) h' Q)) := xe_P_ivv (y := 133) (pc := 54) (z := 126) (i := 126) (vs := []) (by decide +kernel) (by decide +kernel) rfl (by decide +kernel)
theorem xs_133_57 : xe_P d 133 57 [.ref a, l1, l2] st h Q = xe_P d 133 58 [.ref a, l1, l2] (.ref a :: st) h Q := xe_P_lo (ins := .aload_n 0) (len := 1) (by decide +kernel) rfl rfl
theorem xs_133_58 : xe_P d 133 58 [.ref a, l1, l2] st h Q = xe_P d 133 59 [.ref a, l1, l2] (.ref a :: st) h Q := xe_P_lo (ins := .aload_n 0) (len := 1) (by decide +kernel) rfl rfl
theorem xs_133_59 : xe_P d 133 59 ls (.ref a :: st) h Q = (xe_ob h a 7 ∧ xe_P d 133 62 ls (.int (xe_I h a 8) :: st) h Q) := xe_P_getI (i := 160) (by decide +kernel) (by decide +kernel) (by decide) rfl
theorem xs_133_62 : xe_P d 133 62 ls (v0 :: .ref a :: st) h Q = ((xe_w st ≤ 8 ∧ xe_ob h a 7) ∧ xe_C d 129 [.ref a, v0] h (fun r h' => xe_P d 133 65 ls (r.toList ++ st) h' Q)) := xe_P_ivv (y := 133) (pc := 62) (z := 129) (i := 163) (vs := [v0]) (by decide +kernel) (by decide +kernel) rfl (by decide +kernel)
theorem xs_133_65 : xe_P d 133 65 [l0, l1, l2] (.int x :: st) h Q = xe_P d 133 66 [l0, xe_cut l1, .int x] st h Q := xe_P_lo (ins := .istore_n 2) (len := 1) (by decide +kernel) rfl rfl
theorem xs_133_66 : xe_P d 133 66 [.ref a, l1, l2] st h Q = xe_P d 133 67 [.ref a, l1, l2] (.ref a :: st) h Q := xe_P_lo (ins := .aload_n 0) (len := 1) (by decide +kernel) rfl rfl
theorem xs_133_67 : xe_P d 133 67 ls (.ref a :: st) h Q = xe_P d 133 68 ls (.ref a :: .ref a :: st) h Q := xe_P_ar (ins := .dup) (len := 1) (by decide +kernel) rfl
theorem xs_133_67i : xe_P d 133 67 ls (.int x :: st) h Q = xe_P d 133 68 ls (.int x :: .int x :: st) h Q := xe_P_ar (ins := .dup) (len := 1) (by decide +kernel) rfl
theorem xs_133_68 : xe_P d 133 68 ls (.ref a :: st) h Q = (xe_ob h a 7 ∧ xe_P d 133 71 ls (.int (xe_I h a 8) :: st) h Q) := xe_P_getI (i := 160) (by decide +kernel) (by decide +kernel) (by decide) rfl
theorem xs_133_71 : xe_P d 133 71 ls st h Q = xe_P d 133 72 ls (.int 1 :: st) h Q := xe_P_ar (ins := .iconst 1) (len := 1) (by decide +kernel) rfl
theorem xs_133_72 : xe_P d 133 72 [l0, l1, .int x] st h Q = xe_P d 133 73 [l0, l1, .int x] (.int x :: st) h Q := xe_P_lo (ins := .iload_n 2) (len := 1) (by decide +kernel) rfl rfl
theorem xs_133_73 : xe_P d 133 73 ls (.int v :: .int x :: st) h Q = xe_P d 133 74 ls (.int (x <<< (v &&& 31)) :: st) h Q := xe_P_ar (ins := .ishl) (len := 1) (by decide +kernel) rfl
theorem xs_133_74 : xe_P d 133 74 ls (.int v :: .int x :: st) h Q = xe_P d 133 75 ls (.int (x ||| v) :: st) h Q := xe_P_ar (ins := .ior) (len := 1) (by decide +kernel) rfl
theorem xs_133_75 : xe_P d 133 75 ls (.int v :: .ref a :: st) h Q = (xe_ob h a 7 ∧ xe_P d 133 78 ls st (xe_sI h a 8 v) Q) := xe_P_putI (i := 160) (by decide +kernel) (by decide +kernel) (by decide) (by decide +kernel) rfl
theorem xs_133_78 : xe_P d 133 78 [.ref a, l1, l2] st h Q = xe_P d 133 79 [.ref a, l1, l2] (.ref a :: st) h Q := xe_P_lo (ins := .aload_n 0) (len := 1) (by decide +kernel) rfl rfl
theorem xs_133_79 : xe_P d 133 79 ls (.ref a :: st) h Q = (xe_ob h a 7 ∧ xe_P d 133 82 ls (va_rf (xe_R h a 9) :: st) h Q) := xe_P_getR (i := 20) (by decide +kernel) (by decide +kernel) (by decide) rfl
theorem xs_133_82 : xe_P d 133 82 [l0, l1, .int x] st h Q = xe_P d 133 83 [l0, l1, .int x] (.int x :: st) h Q := xe_P_lo (ins := .iload_n 2) (len := 1) (by decide +kernel) rfl rfl
theorem xs_133_83 : xe_P d 133 83 [.ref a, l1, l2] st h Q = xe_P d 133 84 [.ref a, l1, l2] (.ref a :: st) h Q := xe_P_lo (ins := .aload_n 0) (len := 1) (by decide +kernel) rfl rfl
theorem xs_133_84 : xe_P d 133 84 ls st h Q = xe_P d 133 85 ls (.int 1 :: st) h Q := xe_P_ar (ins := .iconst 1) (len := 1) (by decide +kernel) rfl
theorem xs_133_85 : xe_P d 133 85 [l0, l1, .int x] st h Q = xe_P d 133 86 [l0, l1, .int x] (.int x :: st) h Q := xe_P_lo (ins := .iload_n 2) (len := 1) (by decide +kernel) rfl rfl
theorem xs_133_86 : xe_P d 133 86 ls (.int v :: .int x :: st) h Q = xe_P d 133 87 ls (.int (x <<< (v &&& 31)) :: st) h Q := xe_P_ar (ins := .ishl) (len := 1) (by decide +kernel) rfl
theorem xs_133_87 : xe_P d 133 87 ls (v0 :: .ref a :: st) h Q = ((xe_w st ≤ 8 ∧ xe_ob h a 7) ∧ xe_C d 129 [.ref a, v0] h (fun r h' => xe_P d 133 90 ls (r.toList ++ st) h' Q)) := xe_P_ivv (y := 133) (pc := 87) (z := 129) (i := 163) (vs := [v0]) (by decide +kernel) (by decide +kernel) rfl (by decide +kernel)
theorem xs_133_90 : xe_P d 133 90 ls (.int x :: .int v :: .ref a :: st) h Q = ((xe_ob h a 8 ∧ xe_ix h a v) ∧ xe_P d 133 91 ls st (xe_sI h a v.toNatClampNeg x) Q) := xe_P_iast (by decide +kernel)
theorem xs_133_91 : xe_P d 133 91 ls st h Q = xe_P d 133 145 ls st h Q := xe_P_go (len := 3) (off := 54) (by decide +kernel) (by decide)
theorem xs_133_94 : xe_P d 133 94 [l0, .int x, l2] st h Q = xe_P d 133 95 [l0, .int x, l2] (.int x :: st) h Q := xe_P_lo (ins := .iload_n 1) (len := 1) (by decide +kernel) rfl rfl
theorem xs_133_95 : xe_P d 133 95 ls st h Q = xe_P d 133 96 ls (.int 5 :: st) h Q := xe_P_ar (ins := .iconst 5) (len := 1) (by decide +kernel) rfl
theorem xs_133_96 : xe_P d 133 96 ls (.int v :: .int x :: st) h Q = (if x = v then xe_P d 133 99 ls st h Q else xe_P d 133 140 ls st h Q) := xe_P_ifn (ins := .if_icmp .ne 44) (len := 3) (off := 44) (by decide +kernel) (by decide) rfl rfl rfl
theorem xs_133_99 : xe_P d 133 99 [.ref a, l1, l2] st h Q = xe_P d 133 100 [.ref a, l1, l2] (.ref a :: st) h Q := xe_P_lo (ins := .aload_n 0) (len := 1) (by decide +kernel) rfl rfl
theorem xs_133_100 : xe_P d 133 100 ls (.ref a :: st) h Q = ((xe_w st ≤ 8 ∧ xe_ob h a 7) ∧ xe_C d 126 [.ref a] h (fun r h' => xe_P d 133 103 ls (r.toList ++ st) h' Q)) := xe_P_ivv (y := 133) (pc := 100) (z := 126) (i := 126) (vs := []) (by decide +kernel) (by decide +kernel) rfl (by decide +kernel)
theorem xs_133_103 : xe_P d 133 103 [.ref a, l1, l2] st h Q = xe_P d 133 104 [.ref a, l1, l2] (.ref a :: st) h Q := xe_P_lo (ins := .aload_n 0) (len := 1) (by decide +kernel) rfl rfl
theorem xs_133_104 : xe_P d 133 104 [.ref a, l1, l2] st h Q = xe_P d 133 105 [.ref a, l1, l2] (.ref a :: st) h Q := xe_P_lo (ins := .aload_n 0) (len := 1) (by decide +kernel) rfl rfl
theorem xs_133_105 : xe_P d 133 105 ls (.ref a :: st) h Q = (xe_ob h a 7 ∧ xe_P d 133 108 ls (.int (xe_I h a 7) :: st) h Q) := xe_P_getI (i := 166) (by decide +kernel) (by decide +kernel) (by decide) rfl
theorem xs_133_108 : xe_P d 133 108 ls (v0 :: .ref a :: st) h Q = ((xe_w st ≤ 8 ∧ xe_ob h a 7) ∧ xe_C d 129 [.ref a, v0] h (fun r h' => xe_P d 133 111 ls (r.toList ++ st) h' Q)) := xe_P_ivv (y := 133) (pc := 108) (z := 129) (i := 163) (vs := [v0]) (by decide +kernel) (by decide +kernel) rfl (by decide +kernel)
theorem xs_133_111 : xe_P d 133 111 [l0, l1, l2] (.int x :: st) h Q = xe_P d 133 112 [l0, xe_cut l1, .int x] st h Q := xe_P_lo (ins := .istore_n 2) (len := 1) (by decide +kernel) rfl rfl
theorem xs_133_112 : xe_P d 133 112 [.ref a, l1, l2] st h Q = xe_P d 133 113 [.ref a, l1, l2] (.ref a :: st) h Q := xe_P_lo (ins := .aload_n 0) (len := 1) (by decide +kernel) rfl rfl
theorem xs_133_113 : xe_P d 133 113 ls (.ref a :: st) h Q = xe_P d 133 114 ls (.ref a :: .ref a :: st) h Q := xe_P_ar (ins := .dup) (len := 1) (by decide +kernel) rfl
theorem xs_133_113i : xe_P d 133 113 ls (.int x :: st) h Q = xe_P d 133 114 ls (.int x :: .int x :: st) h Q := xe_P_ar (ins := .dup) (len := 1) (by decide +kernel) rfl
theorem xs_133_114 : xe_P d 133 114 ls (.ref a :: st) h Q = (xe_ob h a 7 ∧ xe_P d 133 117 ls (.int (xe_I h a 7) :: st) h Q) := xe_P_getI (i := 166) (by decide +kernel) (by decide +kernel) (by decide) rfl
theorem xs_133_117 : xe_P d 133 117 ls st h Q = xe_P d 133 118 ls (.int 1 :: st) h Q := xe_P_ar (ins := .iconst 1) (len := 1) (by decide +kernel) rfl
theorem xs_133_118 : xe_P d 133 118 [l0, l1, .int x] st h Q = xe_P d 133 119 [l0, l1, .int x] (.int x :: st) h Q := xe_P_lo (ins := .iload_n 2) (len := 1) (by decide +kernel) rfl rfl
theorem xs_133_119 : xe_P d 133 119 ls (.int v :: .int x :: st) h Q = xe_P d 133 120 ls (.int (x <<< (v &&& 31)) :: st) h Q := xe_P_ar (ins := .ishl) (len := 1) (by decide +kernel) rfl
theorem xs_133_120 : xe_P d 133 120 ls (.int v :: .int x :: st) h Q = xe_P d 133 121 ls (.int (x ||| v) :: st) h Q := xe_P_ar (ins := .ior) (len := 1) (by decide +kernel) rfl
theorem xs_133_121 : xe_P d 133 121 ls (.int v :: .ref a :: st) h Q = (xe_ob h a 7 ∧ xe_P d 133 124 ls st (xe_sI h a 7 v) Q) := xe_P_putI (i := 166) (by decide +kernel) (by decide +kernel) (by decide) (by decide +kernel) rfl
theorem xs_133_124 : xe_P d 133 124 [.ref a, l1, l2] st h Q = xe_P d 133 125 [.ref a, l1, l2] (.ref a :: st) h Q := xe_P_lo (ins := .aload_n 0) (len := 1) (by decide +kernel) rfl rfl
theorem xs_133_125 : xe_P d 133 125 ls (.ref a :: st) h Q = (xe_ob h a 7 ∧ xe_P d 133 128 ls (va_rf (xe_R h a 10) :: st) h Q) := xe_P_getR (i := 23) (by decide +kernel) (by decide +kernel) (by decide) rfl
theorem xs_133_128 : xe_P d 133 128 [l0, l1, .int x] st h Q = xe_P d 133 129 [l0, l1, .int x] (.int x :: st) h Q := xe_P_lo (ins := .iload_n 2) (len := 1) (by decide +kernel) rfl rfl
theorem xs_133_129 : xe_P d 133 129 [.ref a, l1, l2] st h Q = xe_P d 133 130 [.ref a, l1, l2] (.ref a :: st) h Q := xe_P_lo (ins := .aload_n 0) (len := 1) (by decide +kernel) rfl rfl
theorem xs_133_130 : xe_P d 133 130 ls st h Q = xe_P d 133 131 ls (.int 1 :: st) h Q := xe_P_ar (ins := .iconst 1) (len := 1) (by decide +kernel) rfl
theorem xs_133_131 : xe_P d 133 131 ls st h Q = xe_P d 133 132 ls (.int 3 :: st) h Q := xe_P_ar (ins := .iconst 3) (len := 1) (by decide +kernel) rfl
theorem xs_133_132 : xe_P d 133 132 ls st h Q = xe_P d 133 133 ls (.int 0 :: st) h Q := xe_P_ar (ins := .iconst 0) (len := 1) (by decide +kernel) rfl
theorem xs_133_133 : xe_P d 133 133 ls (v2 :: v1 :: v0 :: .ref a :: st) h Q = ((xe_w st ≤ 8 ∧ xe_ob h a 7) ∧ xe_C d 127 [.ref a, v0, v1, v2] h (fun r h' => xe_P d 133 136 ls (r.toList ++ st) h' Q)) := xe_P_ivv (y := 133) (pc := 133) (z := 127) (i := 129) (vs := [v2, v1, v0]) (by decide +kernel) (by decide +kernel) rfl (by decide +kernel)
theorem xs_133_136 : xe_P d 133 136 ls (.int x :: .int v :: .ref a :: st) h Q = ((xe_ob h a 8 ∧ xe_ix h a v) ∧ xe_P d 133 137 ls st (xe_sI h a v.toNatClampNeg x) Q) := xe_P_iast (by decide +kernel)
theorem xs_133_137 : xe_P d 133 137 ls st h Q = xe_P d 133 145 ls st h Q := xe_P_go (len := 3) (off := 8) (by decide +kernel) (by decide)
theorem xs_133_140 : xe_P d 133 140 [.ref a, l1, l2] st h Q = xe_P d 133 141 [.ref a, l1, l2] (.ref a :: st) h Q := xe_P_lo (ins := .aload_n 0) (len := 1) (by decide +kernel) rfl rfl
theorem xs_133_141 : xe_P d 133 141 [l0, .int x, l2] st h Q = xe_P d 133 142 [l0, .int x, l2] (.int x :: st) h Q := xe_P_lo (ins := .iload_n 1) (len := 1) (by decide +kernel) rfl rfl
theorem xs_133_142 : xe_P d 133 142 ls (v0 :: .ref a :: st) h Q = ((xe_w st ≤ 8 ∧ xe_ob h a 7) ∧ xe_C d 132 [.ref a, v0] h (fun r h' => xe_P d 133 145 ls (r.toList ++ st) h' Q)) := xe_P_ivv (y := 133) (pc := 142) (z := 132) (i := 169) (vs := [v0]) (by decide +kernel) (by decide +kernel) rfl (by decide +kernel)
theorem xs_133_145 : xe_P d 133 145 [.ref a, l1, l2] st h Q = xe_P d 133 146 [.ref a, l1, l2] (.ref a :: st) h Q := xe_P_lo (ins := .aload_n 0) (len := 1) (by decide +kernel) rfl rfl
theorem xs_133_146 : xe_P d 133 146 ls (.ref a :: st) h Q = (xe_ob h a 7 ∧ xe_P d 133 149 ls (.int (xe_I h a 14) :: st) h Q) := xe_P_getI (i := 92) (by decide +kernel) (by decide +kernel) (by decide) rfl
theorem xs_133_149 : xe_P d 133 149 ls (.int x :: st) h Q = (if x = 0 then xe_P d 133 152 ls st h Q else xe_P d 133 165 ls st h Q) := xe_P_ifn (ins := .ifCond .ne 16) (len := 3) (off := 16) (by decide +kernel) (by decide) rfl rfl rfl
theorem xs_133_152 : xe_P d 133 152 [.ref a, l1, l2] st h Q = xe_P d 133 153 [.ref a, l1, l2] (.ref a :: st) h Q := xe_P_lo (ins := .aload_n 0) (len := 1) (by decide +kernel) rfl rfl
theorem xs_133_153 : xe_P d 133 153 ls (.ref a :: st) h Q = (xe_ob h a 7 ∧ xe_P d 133 156 ls (.int (xe_I h a 18) :: st) h Q) := xe_P_getI (i := 101) (by decide +kernel) (by decide +kernel) (by decide) rfl
theorem xs_133_156 : xe_P d 133 156 ls st h Q = xe_P d 133 157 ls (.int 3 :: st) h Q := xe_P_ar (ins := .iconst 3) (len := 1) (by decide +kernel) rfl
theorem xs_133_157 : xe_P d 133 157 ls (.int v :: .int x :: st) h Q = (if x = v then xe_P d 133 165 ls st h Q else xe_P d 133 160 ls st h Q) := xe_P_if (ins := .if_icmp .eq 8) (len := 3) (off := 8) (by decide +kernel) (by decide) rfl rfl rfl
theorem xs_133_160 : xe_P d 133 160 [.ref a, l1, l2] st h Q = xe_P d 133 161 [.ref a, l1, l2] (.ref a :: st) h Q := xe_P_lo (ins := .aload_n 0) (len := 1) (by decide +kernel) rfl rfl
theorem xs_133_161 : xe_P d 133 161 ls st h Q = xe_P d 133 162 ls (.int 2 :: st) h Q := xe_P_ar (ins := .iconst 2) (len := 1) (by decide +kernel) rfl
theorem xs_133_162 : xe_P d 133 162 ls (v0 :: .ref a :: st) h Q = ((xe_w st ≤ 8 ∧ xe_ob h a 7) ∧ xe_C d 124 [.ref a, v0] h (fun r h' => xe_P d 133 165 ls (r.toList ++ st) h' Q)) := xe_P_ivv (y := 133) (pc := 162) (z := 124) (i := 122) (vs := [v0]) (by decide +kernel) (by decide +kernel) rfl (by decide +kernel)
theorem xs_133_165 : xe_P d 133 165 [.ref a, l1, l2] st h Q = xe_P d 133 166 [.ref a, l1, l2] (.ref a :: st) h Q := xe_P_lo (ins := .aload_n 0) (len := 1) (by decide +kernel) rfl rfl
theorem xs_133_166 : xe_P d 133 166 ls (.ref a :: st) h Q = ((xe_w st ≤ 8 ∧ xe_ob h a 7) ∧ xe_C d 126 [.ref a] h (fun r h' => xe_P d 133 169 ls (r.toList ++ st) h' Q)) := xe_P_ivv (y := 133) (pc := 166) (z := 126) (i := 126) (vs := []) (by decide +kernel) (by decide +kernel) rfl (by decide +kernel)
theorem xs_133_169 : xe_P d 133 169 ls [] h Q = Q none h := xe_P_vreturn (by decide +kernel) rfl
theorem xs_133 : xe_C (d + 1) 133 [.ref a] h Q = xe_P d 133 0 [.ref a, .retAddr 0, .retAddr 0] [] h Q := xe_C_at (Nat.le_of_ble_eq_true rfl) rfl
theorem xs_134_0 : xe_P d 134 0 [.ref a, l1, l2] st h Q = xe_P d 134 1 [.ref a, l1, l2] (.ref a :: st) h Q := xe_P_lo (ins := .aload_n 0) (len := 1) (by decide +kernel) rfl rfl
theorem xs_134_1 : xe_P d 134 1 ls st h Q = xe_P d 134 2 ls (.int 0 :: st) h Q := xe_P_ar (ins := .iconst 0) (len := 1) (by decide +kernel) rfl
theorem xs_134_2 : xe_P d 134 2 ls (.int v :: .ref a :: st) h Q = (xe_ob h a 7 ∧ xe_P d 134 5 ls st (xe_sI h a 14 v) Q) := xe_P_putI (i := 92) (by decide +kernel) (by decide +kernel) (by decide) (by decide +kernel) rfl
theorem xs_134_5 : xe_P d 134 5 [.ref a, l1, l2] st h Q = xe_P d 134 6 [.ref a, l1, l2] (.ref a :: st) h Q := xe_P_lo (ins := .aload_n 0) (len := 1) (by decide +kernel) rfl rfl
theorem xs_134_6 : xe_P d 134 6 ls st h Q = xe_P d 134 7 ls (.int 0 :: st) h Q := xe_P_ar (ins := .iconst 0) (len := 1) (by decide +kernel) rfl
theorem xs_134_7 : xe_P d 134 7 ls (.int v :: .ref a :: st) h Q = (xe_ob h a 7 ∧ xe_P d 134 10 ls st (xe_sI h a 16 v) Q) := xe_P_putI (i := 104) (by decide +kernel) (by decide +kernel) (by decide) (by decide +kernel) rfl
theorem xs_134_10 : xe_P d 134 10 [.ref a, l1, l2] st h Q = xe_P d 134 11 [.ref a, l1, l2] (.ref a :: st) h Q := xe_P_lo (ins := .aload_n 0) (len := 1) (by decide +kernel) rfl rfl
theorem xs_134_11 : xe_P d 134 11 ls st h Q = xe_P d 134 12 ls (.int 2 :: st) h Q := xe_P_ar (ins := .iconst 2) (len := 1) (by decide +kernel) rfl
theorem xs_134_12 : xe_P d 134 12 ls (.int v :: .ref a :: st) h Q = (xe_ob h a 7 ∧ xe_P d 134 15 ls st (xe_sI h a 3 v) Q) := xe_P_putI (i := 145) (by decide +kernel) (by decide +kernel) (by decide) (by decide +kernel) rfl
theorem xs_134_15 : xe_P d 134 15 [.ref a, l1, l2] st h Q = xe_P d 134 16 [.ref a, l1, l2] (.ref a :: st) h Q := xe_P_lo (ins := .aload_n 0) (len := 1) (by decide +kernel) rfl rfl
theorem xs_134_16 : xe_P d 134 16 ls st h Q = xe_P d 134 17 ls (.int 0 :: st) h Q := xe_P_ar (ins := .iconst 0) (len := 1) (by decide +kernel) rfl
theorem xs_134_17 : xe_P d 134 17 ls (.int v :: .ref a :: st) h Q = (xe_ob h a 7 ∧ xe_P d 134 20 ls st (xe_sI h a 4 v) Q) := xe_P_putI (i := 142) (by decide +kernel) (by decide +kernel) (by decide) (by decide +kernel) rfl
theorem xs_134_20 : xe_P d 134 20 [.ref a, l1, l2] st h Q = xe_P d 134 21 [.ref a, l1, l2] (.ref a :: st) h Q := xe_P_lo (ins := .aload_n 0) (len := 1) (by decide +kernel) rfl rfl
theorem xs_134_21 : xe_P d 134 21 ls st h Q = xe_P d 134 22 ls (.int (-1) :: st) h Q := xe_P_ar (ins := .iconst (-1)) (len := 1) (by decide +kernel) rfl
theorem xs_134_22 : xe_P d 134 22 ls (.int v :: .ref a :: st) h Q = (xe_ob h a 7 ∧ xe_P d 134 25 ls st (xe_sI h a 5 v) Q) := xe_P_putI (i := 133) (by decide +kernel) (by decide +kernel) (by decide) (by decide +kernel) rfl
theorem xs_134_25 : xe_P d 134 25 [.ref a, l1, l2] st h Q = xe_P d 134 26 [.ref a, l1, l2] (.ref a :: st) h Q := xe_P_lo (ins := .aload_n 0) (len := 1) (by decide +kernel) rfl rfl
theorem xs_134_26 : xe_P d 134 26 ls st h Q = xe_P d 134 27 ls (.int (-1) :: st) h Q := xe_P_ar (ins := .iconst (-1)) (len := 1) (by decide +kernel) rfl
theorem xs_134_27 : xe_P d 134 27 ls (.int v :: .ref a :: st) h Q = (xe_ob h a 7 ∧ xe_P d 134 30 ls st (xe_sI h a 6 v) Q) := xe_P_putI (i := 136) (by decide +kernel) (by decide +kernel) (by decide) (by decide +kernel) rfl
theorem xs_134_30 : xe_P d 134 30 [.ref a, l1, l2] st h Q = xe_P d 134 31 [.ref a, l1, l2] (.ref a :: st) h Q := xe_P_lo (ins := .aload_n 0) (len := 1) (by decide +kernel) rfl rfl
theorem xs_134_31 : xe_P d 134 31 ls st h Q = xe_P d 134 32 ls (.int 0 :: st) h Q := xe_P_ar (ins := .iconst 0) (len := 1) (by decide +kernel) rfl
theorem xs_134_32 : xe_P d 134 32 ls (.int v :: .ref a :: st) h Q = (xe_ob h a 7 ∧ xe_P d 134 35 ls st (xe_sI h a 7 v) Q) := xe_P_putI (i := 166) (by decide +kernel) (by decide +kernel) (by decide) (by decide +kernel) rfl
theorem xs_134_35 : xe_P d 134 35 [.ref a, l1, l2] st h Q = xe_P d 134 36 [.ref a, l1, l2] (.ref a :: st) h Q := xe_P_lo (ins := .aload_n 0) (len := 1) (by decide +kernel) rfl rfl
theorem xs_134_36 : xe_P d 134 36 ls st h Q = xe_P d 134 37 ls (.int 0 :: st) h Q := xe_P_ar (ins := .iconst 0) (len := 1) (by decide +kernel) rfl
theorem xs_134_37 : xe_P d 134 37 ls (.int v :: .ref a :: st) h Q = (xe_ob h a 7 ∧ xe_P d 134 40 ls st (xe_sI h a 8 v) Q) := xe_P_putI (i := 160) (by decide +kernel) (by decide +kernel) (by decide) (by decide +kernel) rfl
theorem xs_134_40 : xe_P d 134 40 ls st h Q = xe_P d 134 41 ls (.int 0 :: st) h Q := xe_P_ar (ins := .iconst 0) (len := 1) (by decide +kernel) rfl
theorem xs_134_41 : xe_P d 134 41 [l0, l1, l2] (.int x :: st) h Q = xe_P d 134 42 [xe_cut l0, .int x, l2] st h Q := xe_P_lo (ins := .istore_n 1) (len := 1) (by decide +kernel) rfl rfl
theorem xs_134_42 : xe_P d 134 42 ls st h Q = xe_P d 134 43 ls (.int 0 :: st) h Q := xe_P_ar (ins := .iconst 0) (len := 1) (by decide +kernel) rfl
theorem xs_134_43 : xe_P d 134 43 [l0, l1, l2] (.int x :: st) h Q = xe_P d 134 44 [l0, xe_cut l1, .int x] st h Q := xe_P_lo (ins := .istore_n 2) (len := 1) (by decide +kernel) rfl rfl
theorem xs_134_44 : xe_P d 134 44 [l0, l1, .int x] st h Q = xe_P d 134 45 [l0, l1, .int x] (.int x :: st) h Q := xe_P_lo (ins := .iload_n 2) (len := 1) (by decide +kernel) rfl rfl
theorem xs_134_45 : xe_P d 134 45 ls st h Q = xe_P d 134 47 ls (.int 35 :: st) h Q := xe_P_ar (ins := .bipush 35) (len := 2) (by decide +kernel) rfl
theorem xs_134_47 : xe_P d 134 47 ls (.int v :: .int x :: st) h Q = (if v ≤ x then xe_P d 134 84 ls st h Q else xe_P d 134 50 ls st h Q) := xe_P_if (ins := .if_icmp .ge 37) (len := 3) (off := 37) (by decide +kernel) (by decide) rfl rfl rfl
theorem xs_134_50 : xe_P d 134 50 [.ref a, l1, l2] st h Q = xe_P d 134 51 [.ref a, l1, l2] (.ref a :: st) h Q := xe_P_lo (ins := .aload_n 0) (len := 1) (by decide +kernel) rfl rfl
theorem xs_134_51 : xe_P d 134 51 ls (.ref a :: st) h Q = (xe_ob h a 7 ∧ xe_P d 134 54 ls (va_rf (xe_R h a 2) :: st) h Q) := xe_P_getR (i := 17) (by decide +kernel) (by decide +kernel) (by decide) rfl
theorem xs_134_54 : xe_P d 134 54 [l0, l1, .int x] st h Q = xe_P d 134 55 [l0, l1, .int x] (.int x :: st) h Q := xe_P_lo (ins := .iload_n 2) (len := 1) (by decide +kernel) rfl rfl
theorem xs_134_55 : xe_P d 134 55 ls st h Q = xe_P d 134 56 ls (.int 0 :: st) h Q := xe_P_ar (ins := .iconst 0) (len := 1) (by decide +kernel) rfl
theorem xs_134_56 : xe_P d 134 56 ls (.int x :: .int v :: .ref a :: st) h Q = ((xe_ob h a 8 ∧ xe_ix h a v) ∧ xe_P d 134 57 ls st (xe_sI h a v.toNatClampNeg x) Q) := xe_P_iast (by decide +kernel)
theorem xs_134_57 : xe_P d 134 57 [.ref a, l1, l2] st h Q = xe_P d 134 58 [.ref a, l1, l2] (.ref a :: st) h Q := xe_P_lo (ins := .aload_n 0) (len := 1) (by decide +kernel) rfl rfl
theorem xs_134_58 : xe_P d 134 58 ls (.ref a :: st) h Q = (xe_ob h a 7 ∧ xe_P d 134 61 ls (va_rf (xe_R h a 9) :: st) h Q) := xe_P_getR (i := 20) (by decide +kernel) (by decide +kernel) (by decide) rfl
theorem xs_134_61 : xe_P d 134 61 [l0, l1, .int x] st h Q = xe_P d 134 62 [l0, l1, .int x] (.int x :: st) h Q := xe_P_lo (ins := .iload_n 2) (len := 1) (by decide +kernel) rfl rfl
theorem xs_134_62 : xe_P d 134 62 ls st h Q = xe_P d 134 64 ls (.int 6 :: st) h Q := xe_P_ar (ins := .bipush 6) (len := 2) (by decide +kernel) rfl
theorem xs_134_64 : xe_P d 134 64 ls (.int v :: .int x :: st) h Q = (¬ v = 0 ∧ xe_P d 134 65 ls (.int (x - x / v * v) :: st) h Q) := xe_P_rem (by decide +kernel)
theorem xs_134_65 : xe_P d 134 65 ls st h Q = xe_P d 134 67 ls (.int (-4) :: st) h Q := xe_P_ar (ins := .bipush (-4)) (len := 2) (by decide +kernel) rfl
theorem xs_134_67 : xe_P d 134 67 ls (.int x :: .int v :: .ref a :: st) h Q = ((xe_ob h a 8 ∧ xe_ix h a v) ∧ xe_P d 134 68 ls st (xe_sI h a v.toNatClampNeg x) Q) := xe_P_iast (by decide +kernel)
theorem xs_134_68 : xe_P d 134 68 [.ref a, l1, l2] st h Q = xe_P d 134 69 [.ref a, l1, l2] (.ref a :: st) h Q := xe_P_lo (ins := .aload_n 0) (len := 1) (by decide +kernel) rfl rfl
theorem xs_134_69 : xe_P d 134 69 ls (.ref a :: st) h Q = (xe_ob h a 7 ∧ xe_P d 134 72 ls (va_rf (xe_R h a 10) :: st) h Q) := xe_P_getR (i := 23) (by decide +kernel) (by decide +kernel) (by decide) rfl
theorem xs_134_72 : xe_P d 134 72 [l0, l1, .int x] st h Q = xe_P d 134 73 [l0, l1, .int x] (.int x :: st) h Q := xe_P_lo (ins := .iload_n 2) (len := 1) (by decide +kernel) rfl rfl
theorem xs_134_73 : xe_P d 134 73 ls st h Q = xe_P d 134 75 ls (.int 6 :: st) h Q := xe_P_ar (ins := .bipush 6) (len := 2) (by decide +kernel) rfl
theorem xs_134_75 : xe_P d 134 75 ls (.int v :: .int x :: st) h Q = (¬ v = 0 ∧ xe_P d 134 76 ls (.int (x - x / v * v) :: st) h Q) := xe_P_rem (by decide +kernel)
theorem xs_134_76 : xe_P d 134 76 ls st h Q = xe_P d 134 77 ls (.int 0 :: st) h Q := xe_P_ar (ins := .iconst 0) (len := 1) (by decide +kernel) rfl
theorem xs_134_77 : xe_P d 134 77 ls (.int x :: .int v :: .ref a :: st) h Q = ((xe_ob h a 8 ∧ xe_ix h a v) ∧ xe_P d 134 78 ls st (xe_sI h a v.toNatClampNeg x) Q) := xe_P_iast (by decide +kernel)
theorem xs_134_78 : xe_P d 134 78 [l0, l1, .int x] st h Q = xe_P d 134 81 [l0, xe_cut l1, .int (x + 1)] st h Q := xe_P_lo (ins := .iinc 2 1) (len := 3) (by decide +kernel) rfl rfl
theorem xs_134_81 : xe_P d 134 81 ls st h Q = xe_P d 134 44 ls st h Q := xe_P_go (len := 3) (off := (-37)) (by decide +kernel) (by decide)
theorem xs_134_84 : xe_P d 134 84 [.ref a, l1, l2] st h Q = xe_P d 134 85 [.ref a, l1, l2] (.ref a :: st) h Q := xe_P_lo (ins := .aload_n 0) (len := 1) (by decide +kernel) rfl rfl
theorem xs_134_85 : xe_P d 134 85 ls (.ref a :: st) h Q = ((xe_w st ≤ 8 ∧ xe_ob h a 7) ∧ xe_C d 126 [.ref a] h (fun r h' => xe_P d 134 88 ls (r.toList ++ st) h' Q)) := xe_P_ivv (y := 134) (pc := 85) (z := 126) (i := 126) (vs := []) (by decide +kernel) (by decide +kernel) rfl (by decide +kernel)
theorem xs_134_88 : xe_P d 134 88 [.ref a, l1, l2] st h Q = xe_P d 134 89 [.ref a, l1, l2] (.ref a :: st) h Q := xe_P_lo (ins := .aload_n 0) (len := 1) (by decide +kernel) rfl rfl
theorem xs_134_89 : xe_P d 134 89 ls (.ref a :: st) h Q = (xe_ob h a 7 ∧ xe_P d 134 92 ls (.int (xe_I h a 14) :: st) h Q) := xe_P_getI (i := 92) (by decide +kernel) (by decide +kernel) (by decide) rfl
theorem xs_134_92 : xe_P d 134 92 ls (.int x :: st) h Q = (if x = 0 then xe_P d 134 95 ls st h Q else xe_P d 134 112 ls st h Q) := xe_P_ifn (ins := .ifCond .ne 20) (len := 3) (off := 20) (by decide +kernel) (by decide) rfl rfl rfl
theorem xs_134_95 : xe_P d 134 95 [.ref a, l1, l2] st h Q = xe_P d 134 96 [.ref a, l1, l2] (.ref a :: st) h Q := xe_P_lo (ins := .aload_n 0) (len := 1) (by decide +kernel) rfl rfl
theorem xs_134_96 : xe_P d 134 96 ls (.ref a :: st) h Q = (xe_ob h a 7 ∧ xe_P d 134 99 ls (.int (xe_I h a 18) :: st) h Q) := xe_P_getI (i := 101) (by decide +kernel) (by decide +kernel) (by decide) rfl
theorem xs_134_99 : xe_P d 134 99 ls (.int x :: st) h Q = (if x = 0 then xe_P d 134 112 ls st h Q else xe_P d 134 102 ls st h Q) := xe_P_if (ins := .ifCond .eq 13) (len := 3) (off := 13) (by decide +kernel) (by decide) rfl rfl rfl
theorem xs_134_102 : xe_P d 134 102 [.ref a, l1, l2] st h Q = xe_P d 134 103 [.ref a, l1, l2] (.ref a :: st) h Q := xe_P_lo (ins := .aload_n 0) (len := 1) (by decide +kernel) rfl rfl
theorem xs_134_103 : xe_P d 134 103 ls (.ref a :: st) h Q = ((xe_w st ≤ 8 ∧ xe_ob h a 7) ∧ xe_C d 133 [.ref a] h (fun r h' => xe_P d 134 106 ls (r.toList ++ st) h' Q)) := xe_P_ivv (y := 134) (pc := 103) (z := 133) (i := 172) (vs := []) (by decide +kernel) (by decide +kernel) rfl (by decide +kernel)
theorem xs_134_106 : xe_P d 134 106 [l0, .int x, l2] st h Q = xe_P d 134 109 [xe_cut l0, .int (x + 1), l2] st h Q := xe_P_lo (ins := .iinc 1 1) (len := 3) (by decide +kernel) rfl rfl
theorem xs_134_109 : xe_P d 134 109 ls st h Q = xe_P d 134 88 ls st h Q := xe_P_go (len := 3) (off := (-21)) (by decide +kernel) (by decide)
theorem xs_134_112 : xe_P d 134 112 [.ref a, l1, l2] st h Q = xe_P d 134 113 [.ref a, l1, l2] (.ref a :: st) h Q := xe_P_lo (ins := .aload_n 0) (len := 1) (by decide +kernel) rfl rfl
theorem xs_134_113 : xe_P d 134 113 ls (.ref a :: st) h Q = (xe_ob h a 7 ∧ xe_P d 134 116 ls (.int (xe_I h a 14) :: st) h Q) := xe_P_getI (i := 92) (by decide +kernel) (by decide +kernel) (by decide) rfl
theorem xs_134_116 : xe_P d 134 116 ls (.int x :: st) h Q = (if x = 0 then xe_P d 134 119 ls st h Q else xe_P d 134 150 ls st h Q) := xe_P_ifn (ins := .ifCond .ne 34) (len := 3) (off := 34) (by decide +kernel) (by decide) rfl rfl rfl
theorem xs_134_119 : xe_P d 134 119 [.ref a, l1, l2] st h Q = xe_P d 134 120 [.ref a, l1, l2] (.ref a :: st) h Q := xe_P_lo (ins := .aload_n 0) (len := 1) (by decide +kernel) rfl rfl
theorem xs_134_120 : xe_P d 134 120 ls (.ref a :: st) h Q = (xe_ob h a 7 ∧ xe_P d 134 123 ls (.int (xe_I h a 5) :: st) h Q) := xe_P_getI (i := 133) (by decide +kernel) (by decide +kernel) (by decide) rfl
theorem xs_134_123 : xe_P d 134 123 [.ref a, l1, l2] st h Q = xe_P d 134 124 [.ref a, l1, l2] (.ref a :: st) h Q := xe_P_lo (ins := .aload_n 0) (len := 1) (by decide +kernel) rfl rfl
theorem xs_134_124 : xe_P d 134 124 ls (.ref a :: st) h Q = (xe_ob h a 7 ∧ xe_P d 134 127 ls (.int (xe_I h a 3) :: st) h Q) := xe_P_getI (i := 145) (by decide +kernel) (by decide +kernel) (by decide) rfl
theorem xs_134_127 : xe_P d 134 127 ls (.int v :: .int x :: st) h Q = (if v ≤ x then xe_P d 134 144 ls st h Q else xe_P d 134 130 ls st h Q) := xe_P_if (ins := .if_icmp .ge 17) (len := 3) (off := 17) (by decide +kernel) (by decide) rfl rfl rfl
theorem xs_134_130 : xe_P d 134 130 [.ref a, l1, l2] st h Q = xe_P d 134 131 [.ref a, l1, l2] (.ref a :: st) h Q := xe_P_lo (ins := .aload_n 0) (len := 1) (by decide +kernel) rfl rfl
theorem xs_134_131 : xe_P d 134 131 ls (.ref a :: st) h Q = (xe_ob h a 7 ∧ xe_P d 134 134 ls (.int (xe_I h a 6) :: st) h Q) := xe_P_getI (i := 136) (by decide +kernel) (by decide +kernel) (by decide) rfl
theorem xs_134_134 : xe_P d 134 134 [.ref a, l1, l2] st h Q = xe_P d 134 135 [.ref a, l1, l2] (.ref a :: st) h Q := xe_P_lo (ins := .aload_n 0) (len := 1) (by decide +kernel) rfl rfl
theorem xs_134_135 : xe_P d 134 135 ls (.ref a :: st) h Q = (xe_ob h a 7 ∧ xe_P d 134 138 ls (va_rf (xe_R h a 2) :: st) h Q) := xe_P_getR (i := 17) (by decide +kernel) (by decide +kernel) (by decide) rfl
theorem xs_134_138 : xe_P d 134 138 ls st h Q = xe_P d 134 140 ls (.int 24 :: st) h Q := xe_P_ar (ins := .bipush 24) (len := 2) (by decide +kernel) rfl
theorem xs_134_140 : xe_P d 134 140 ls (.int v :: .ref a :: st) h Q = ((xe_ia h a ∧ xe_ix h a v) ∧ xe_P d 134 141 ls (.int (xe_I h a v.toNatClampNeg) :: st) h Q) := xe_P_iald (by decide +kernel)
theorem xs_134_141 : xe_P d 134 141 ls (.int v :: .int x :: st) h Q = (if x < v then xe_P d 134 150 ls st h Q else xe_P d 134 144 ls st h Q) := xe_P_if (ins := .if_icmp .lt 9) (len := 3) (off := 9) (by decide +kernel) (by decide) rfl rfl rfl
theorem xs_134_144 : xe_P d 134 144 [.ref a, l1, l2] st h Q = xe_P d 134 145 [.ref a, l1, l2] (.ref a :: st) h Q := xe_P_lo (ins := .aload_n 0) (len := 1) (by decide +kernel) rfl rfl
theorem xs_134_145 : xe_P d 134 145 ls st h Q = xe_P d 134 147 ls (.int 6 :: st) h Q := xe_P_ar (ins := .bipush 6) (len := 2) (by decide +kernel) rfl
theorem xs_134_147 : xe_P d 134 147 ls (v0 :: .ref a :: st) h Q = ((xe_w st ≤ 8 ∧ xe_ob h a 7) ∧ xe_C d 124 [.ref a, v0] h (fun r h' => xe_P d 134 150 ls (r.toList ++ st) h' Q)) := xe_P_ivv (y := 134) (pc := 147) (z := 124) (i := 122) (vs := [v0]) (by decide +kernel) (by decide +kernel) rfl (by decide +kernel)
theorem xs_134_150 : xe_P d 134 150 [.ref a, l1, l2] st h Q = xe_P d 134 151 [.ref a, l1, l2] (.ref a :: st) h Q := xe_P_lo (ins := .aload_n 0) (len := 1) (by decide +kernel) rfl rfl
theorem xs_134_151 : xe_P d 134 151 ls st h Q = xe_P d 134 152 ls (.int 0 :: st) h Q := xe_P_ar (ins := .iconst 0) (len := 1) (by decide +kernel) rfl
theorem xs_134_152 : xe_P d 134 152 ls (.int v :: .ref a :: st) h Q = (xe_ob h a 7 ∧ xe_P d 134 155 ls st (xe_sI h a 12 v) Q) := xe_P_putI (i := 85) (by decide +kernel) (by decide +kernel) (by decide) (by decide +kernel) rfl
theorem xs_134_155 : xe_P d 134 155 [.ref a, l1, l2] st h Q = xe_P d 134 156 [.ref a, l1, l2] (.ref a :: st) h Q := xe_P_lo (ins := .aload_n 0) (len := 1) (by decide +kernel) rfl rfl
theorem xs_134_156 : xe_P d 134 156 [.ref a, l1, l2] st h Q = xe_P d 134 157 [.ref a, l1, l2] (.ref a :: st) h Q := xe_P_lo (ins := .aload_n 0) (len := 1) (by decide +kernel) rfl rfl
theorem xs_134_157 : xe_P d 134 157 ls (.ref a :: st) h Q = (xe_ob h a 7 ∧ xe_P d 134 160 ls (.int (xe_I h a 14) :: st) h Q) := xe_P_getI (i := 92) (by decide +kernel) (by decide +kernel) (by decide) rfl
theorem xs_134_160 : xe_P d 134 160 ls (.int v :: .ref a :: st) h Q = (xe_ob h a 7 ∧ xe_P d 134 163 ls st (xe_sI h a 13 v) Q) := xe_P_putI (i := 175) (by decide +kernel) (by decide +kernel) (by decide) (by decide +kernel) rfl
theorem xs_134_163 : xe_P d 134 163 [.ref a, l1, l2] st h Q = xe_P d 134 164 [.ref a, l1, l2] (.ref a :: st) h Q := xe_P_lo (ins := .aload_n 0) (len := 1) (by decide +kernel) rfl rfl
theorem xs_134_164 : xe_P d 134 164 ls (.ref a :: st) h Q = (xe_ob h a 7 ∧ xe_P d 134 167 ls (.int (xe_I h a 14) :: st) h Q) := xe_P_getI (i := 92) (by decide +kernel) (by decide +kernel) (by decide) rfl
theorem xs_134_167 : xe_P d 134 167 ls (.int x :: st) h Q = (if x ≤ 0 then xe_P d 134 178 ls st h Q else xe_P d 134 170 ls st h Q) := xe_P_if (ins := .ifCond .le 11) (len := 3) (off := 11) (by decide +kernel) (by decide) rfl rfl rfl
theorem xs_134_170 : xe_P d 134 170 ls st h Q = xe_P d 134 172 ls (.int (-10) :: st) h Q := xe_P_ar (ins := .bipush (-10)) (len := 2) (by decide +kernel) rfl
theorem xs_134_172 : xe_P d 134 172 [.ref a, l1, l2] st h Q = xe_P d 134 173 [.ref a, l1, l2] (.ref a :: st) h Q := xe_P_lo (ins := .aload_n 0) (len := 1) (by decide +kernel) rfl rfl
theorem xs_134_173 : xe_P d 134 173 ls (.ref a :: st) h Q = (xe_ob h a 7 ∧ xe_P d 134 176 ls (.int (xe_I h a 15) :: st) h Q) := xe_P_getI (i := 98) (by decide +kernel) (by decide +kernel) (by decide) rfl
theorem xs_134_176 : xe_P d 134 176 ls (.int v :: .int x :: st) h Q = xe_P d 134 177 ls (.int (x - v) :: st) h Q := xe_P_ar (ins := .isub) (len := 1) (by decide +kernel) rfl
theorem xs_134_177 : xe_P d 134 177 ls [.int x] h Q = Q (some (.int x)) h := xe_P_ireturn (by decide +kernel) rfl
theorem xs_134_178 : xe_P d 134 178 ls st h Q = xe_P d 134 179 ls (.int 0 :: st) h Q := xe_P_ar (ins := .iconst 0) (len := 1) (by decide +kernel) rfl
theorem xs_134_179 : xe_P d 134 179 [l0, l1, l2] (.int x :: st) h Q = xe_P d 134 180 [l0, xe_cut l1, .int x] st h Q := xe_P_lo (ins := .istore_n 2) (len := 1) (by decide +kernel) rfl rfl
theorem xs_134_180 : xe_P d 134 180 [l0, l1, .int x] st h Q = xe_P d 134 181 [l0, l1, .int x] (.int x :: st) h Q := xe_P_lo (ins := .iload_n 2) (len := 1) (by decide +kernel) rfl rfl
theorem xs_134_181 : xe_P d 134 181 ls st h Q = xe_P d 134 183 ls (.int 35 :: st) h Q := xe_P_ar (ins := .bipush 35) (len := 2) (by decide +kernel) rfl
theorem xs_134_183 : xe_P d 134 183 ls (.int v :: .int x :: st) h Q = (if v ≤ x then xe_P d 134 204 ls st h Q else xe_P d 134 186 ls st h Q) := xe_P_if (ins := .if_icmp .ge 21) (len := 3) (off := 21) (by decide +kernel) (by decide) rfl rfl rfl
theorem xs_134_186 : xe_P d 134 186 [.ref a, l1, l2] st h Q = xe_P d 134 187 [.ref a, l1, l2] (.ref a :: st) h Q := xe_P_lo (ins := .aload_n 0) (len := 1) (by decide +kernel) rfl rfl
theorem xs_134_187 : xe_P d 134 187 ls (.ref a :: st) h Q = (xe_ob h a 7 ∧ xe_P d 134 190 ls (va_rf (xe_R h a 0) :: st) h Q) := xe_P_getR (i := 7) (by decide +kernel) (by decide +kernel) (by decide) rfl
theorem xs_134_190 : xe_P d 134 190 [l0, l1, .int x] st h Q = xe_P d 134 191 [l0, l1, .int x] (.int x :: st) h Q := xe_P_lo (ins := .iload_n 2) (len := 1) (by decide +kernel) rfl rfl
theorem xs_134_191 : xe_P d 134 191 [.ref a, l1, l2] st h Q = xe_P d 134 192 [.ref a, l1, l2] (.ref a :: st) h Q := xe_P_lo (ins := .aload_n 0) (len := 1) (by decide +kernel) rfl rfl
theorem xs_134_192 : xe_P d 134 192 ls (.ref a :: st) h Q = (xe_ob h a 7 ∧ xe_P d 134 195 ls (va_rf (xe_R h a 2) :: st) h Q) := xe_P_getR (i := 17) (by decide +kernel) (by decide +kernel) (by decide) rfl
theorem xs_134_195 : xe_P d 134 195 [l0, l1, .int x] st h Q = xe_P d 134 196 [l0, l1, .int x] (.int x :: st) h Q := xe_P_lo (ins := .iload_n 2) (len := 1) (by decide +kernel) rfl rfl
theorem xs_134_196 : xe_P d 134 196 ls (.int v :: .ref a :: st) h Q = ((xe_ia h a ∧ xe_ix h a v) ∧ xe_P d 134 197 ls (.int (xe_I h a v.toNatClampNeg) :: st) h Q) := xe_P_iald (by decide +kernel)
theorem xs_134_197 : xe_P d 134 197 ls (.int x :: .int v :: .ref a :: st) h Q = ((xe_ob h a 8 ∧ xe_ix h a v) ∧ xe_P d 134 198 ls st (xe_sI h a v.toNatClampNeg x) Q) := xe_P_iast (by decide +kernel)
theorem xs_134_198 : xe_P d 134 198 [l0, l1, .int x] st h Q = xe_P d 134 201 [l0, xe_cut l1, .int (x + 1)] st h Q := xe_P_lo (ins := .iinc 2 1) (len := 3) (by decide +kernel) rfl rfl
theorem xs_134_201 : xe_P d 134 201 ls st h Q = xe_P d 134 180 ls st h Q := xe_P_go (len := 3) (off := (-21)) (by decide +kernel) (by decide)
theorem xs_134_204 : xe_P d 134 204 ls st h Q = xe_P d 134 205 ls (.int 0 :: st) h Q := xe_P_ar (ins := .iconst 0) (len := 1) (by decide +kernel) rfl
theorem xs_134_205 : xe_P d 134 205 [l0, l1, l2] (.int x :: st) h Q = xe_P d 134 206 [l0, xe_cut l1, .int x] st h Q := xe_P_lo (ins := .istore_n 2) (len := 1) (by decide +kernel) rfl rfl
theorem xs_134_206 : xe_P d 134 206 [l0, l1, .int x] st h Q = xe_P d 134 207 [l0, l1, .int x] (.int x :: st) h Q := xe_P_lo (ins := .iload_n 2) (len := 1) (by decide +kernel) rfl rfl
theorem xs_134_207 : xe_P d 134 207 ls st h Q = xe_P d 134 209 ls (.int 6 :: st) h Q := xe_P_ar (ins := .bipush 6) (len := 2) (by decide +kernel) rfl
theorem xs_134_209 : xe_P d 134 209 ls (.int v :: .int x :: st) h Q = (if v ≤ x then xe_P d 134 250 ls st h Q else xe_P d 134 212 ls st h Q) := xe_P_if (ins := .if_icmp .ge 41) (len := 3) (off := 41) (by decide +kernel) (by decide) rfl rfl rfl
theorem xs_134_212 : xe_P d 134 212 [.ref a, l1, l2] st h Q = xe_P d 134 213 [.ref a, l1, l2] (.ref a :: st) h Q := xe_P_lo (ins := .aload_n 0) (len := 1) (by decide +kernel) rfl rfl
theorem xs_134_213 : xe_P d 134 213 ls (.ref a :: st) h Q = (xe_ob h a 7 ∧ xe_P d 134 216 ls (va_rf (xe_R h a 0) :: st) h Q) := xe_P_getR (i := 7) (by decide +kernel) (by decide +kernel) (by decide) rfl
theorem xs_134_216 : xe_P d 134 216 ls st h Q = xe_P d 134 217 ls (.int 4 :: st) h Q := xe_P_ar (ins := .iconst 4) (len := 1) (by decide +kernel) rfl
theorem xs_134_217 : xe_P d 134 217 [l0, l1, .int x] st h Q = xe_P d 134 218 [l0, l1, .int x] (.int x :: st) h Q := xe_P_lo (ins := .iload_n 2) (len := 1) (by decide +kernel) rfl rfl
theorem xs_134_218 : xe_P d 134 218 ls (.int v :: .int x :: st) h Q = xe_P d 134 219 ls (.int (x * v) :: st) h Q := xe_P_ar (ins := .imul) (len := 1) (by decide +kernel) rfl
theorem xs_134_219 : xe_P d 134 219 ls st h Q = xe_P d 134 220 ls (.int 2 :: st) h Q := xe_P_ar (ins := .iconst 2) (len := 1) (by decide +kernel) rfl
theorem xs_134_220 : xe_P d 134 220 ls (.int v :: .int x :: st) h Q = xe_P d 134 221 ls (.int (x + v) :: st) h Q := xe_P_ar (ins := .iadd) (len := 1) (by decide +kernel) rfl
theorem xs_134_221 : xe_P d 134 221 [.ref a, l1, l2] st h Q = xe_P d 134 222 [.ref a, l1, l2] (.ref a :: st) h Q := xe_P_lo (ins := .aload_n 0) (len := 1) (by decide +kernel) rfl rfl
theorem xs_134_222 : xe_P d 134 222 ls (.ref a :: st) h Q = (xe_ob h a 7 ∧ xe_P d 134 225 ls (va_rf (xe_R h a 9) :: st) h Q) := xe_P_getR (i := 20) (by decide +kernel) (by decide +kernel) (by decide) rfl
theorem xs_134_225 : xe_P d 134 225 [l0, l1, .int x] st h Q = xe_P d 134 226 [l0, l1, .int x] (.int x :: st) h Q := xe_P_lo (ins := .iload_n 2) (len := 1) (by decide +kernel) rfl rfl
theorem xs_134_226 : xe_P d 134 226 ls (.int v :: .ref a :: st) h Q = ((xe_ia h a ∧ xe_ix h a v) ∧ xe_P d 134 227 ls (.int (xe_I h a v.toNatClampNeg) :: st) h Q) := xe_P_iald (by decide +kernel)
theorem xs_134_227 : xe_P d 134 227 ls (.int x :: .int v :: .ref a :: st) h Q = ((xe_ob h a 8 ∧ xe_ix h a v) ∧ xe_P d 134 228 ls st (xe_sI h a v.toNatClampNeg x) Q) := xe_P_iast (by decide +kernel)
theorem xs_134_228 : xe_P d 134 228 [.ref a, l1, l2] st h Q = xe_P d 134 229 [.ref a, l1, l2] (.ref a :: st) h Q := xe_P_lo (ins := .aload_n 0) (len := 1) (by decide +kernel) rfl rfl
theorem xs_134_229 : xe_P d 134 229 ls (.ref a :: st) h Q = (xe_ob h a 7 ∧ xe_P d 134 232 ls (va_rf (xe_R h a 0) :: st) h Q) := xe_P_getR (i := 7) (by decide +kernel) (by decide +kernel) (by decide) rfl
theorem xs_134_232 : xe_P d 134 232 ls st h Q = xe_P d 134 233 ls (.int 4 :: st) h Q := xe_P_ar (ins := .iconst 4) (len := 1) (by decide +kernel) rfl
theorem xs_134_233 : xe_P d 134 233 [l0, l1, .int x] st h Q = xe_P d 134 234 [l0, l1, .int x] (.int x :: st) h Q := xe_P_lo (ins := .iload_n 2) (len := 1) (by decide +kernel) rfl rfl
theorem xs_134_234 : xe_P d 134 234 ls (.int v :: .int x :: st) h Q = xe_P d 134 235 ls (.int (x * v) :: st) h Q := xe_P_ar (ins := .imul) (len := 1) (by decide +kernel) rfl
theorem xs_134_235 : xe_P d 134 235 ls st h Q = xe_P d 134 236 ls (.int 3 :: st) h Q := xe_P_ar (ins := .iconst 3) (len := 1) (by decide +kernel) rfl
theorem xs_134_236 : xe_P d 134 236 ls (.int v :: .int x :: st) h Q = xe_P d 134 237 ls (.int (x + v) :: st) h Q := xe_P_ar (ins := .iadd) (len := 1) (by decide +kernel) rfl
theorem xs_134_237 : xe_P d 134 237 [.ref a, l1, l2] st h Q = xe_P d 134 238 [.ref a, l1, l2] (.ref a :: st) h Q := xe_P_lo (ins := .aload_n 0) (len := 1) (by decide +kernel) rfl rfl
theorem xs_134_238 : xe_P d 134 238 ls (.ref a :: st) h Q = (xe_ob h a 7 ∧ xe_P d 134 241 ls (va_rf (xe_R h a 10) :: st) h Q) := xe_P_getR (i := 23) (by decide +kernel) (by decide +kernel) (by decide) rfl
theorem xs_134_241 : xe_P d 134 241 [l0, l1, .int x] st h Q = xe_P d 134 242 [l0, l1, .int x] (.int x :: st) h Q := xe_P_lo (ins := .iload_n 2) (len := 1) (by decide +kernel) rfl rfl
theorem xs_134_242 : xe_P d 134 242 ls (.int v :: .ref a :: st) h Q = ((xe_ia h a ∧ xe_ix h a v) ∧ xe_P d 134 243 ls (.int (xe_I h a v.toNatClampNeg) :: st) h Q) := xe_P_iald (by decide +kernel)
theorem xs_134_243 : xe_P d 134 243 ls (.int x :: .int v :: .ref a :: st) h Q = ((xe_ob h a 8 ∧ xe_ix h a v) ∧ xe_P d 134 244 ls st (xe_sI h a v.toNatClampNeg x) Q) := xe_P_iast (by decide +kernel)
theorem xs_134_244 : xe_P d 134 244 [l0, l1, .int x] st h Q = xe_P d 134 247 [l0, xe_cut l1, .int (x + 1)] st h Q := xe_P_lo (ins := .iinc 2 1) (len := 3) (by decide +kernel) rfl rfl
theorem xs_134_247 : xe_P d 134 247 ls st h Q = xe_P d 134 206 ls st h Q := xe_P_go (len := 3) (off := (-41)) (by decide +kernel) (by decide)
theorem xs_134_250 : xe_P d 134 250 [.ref a, l1, l2] st h Q = xe_P d 134 251 [.ref a, l1, l2] (.ref a :: st) h Q := xe_P_lo (ins := .aload_n 0) (len := 1) (by decide +kernel) rfl rfl
theorem xs_134_251 : xe_P d 134 251 [.ref a, l1, l2] st h Q = xe_P d 134 252 [.ref a, l1, l2] (.ref a :: st) h Q := xe_P_lo (ins := .aload_n 0) (len := 1) (by decide +kernel) rfl rfl
theorem xs_134_252 : xe_P d 134 252 ls (.ref a :: st) h Q = (xe_ob h a 7 ∧ xe_P d 134 255 ls (.int (xe_I h a 3) :: st) h Q) := xe_P_getI (i := 145) (by decide +kernel) (by decide +kernel) (by decide) rfl
theorem xs_134_255 : xe_P d 134 255 ls (.int v :: .ref a :: st) h Q = (xe_ob h a 7 ∧ xe_P d 134 258 ls st (xe_sI h a 1 v) Q) := xe_P_putI (i := 13) (by decide +kernel) (by decide +kernel) (by decide) (by decide +kernel) rfl
theorem xs_134_258 : xe_P d 134 258 [.ref a, l1, l2] st h Q = xe_P d 134 259 [.ref a, l1, l2] (.ref a :: st) h Q := xe_P_lo (ins := .aload_n 0) (len := 1) (by decide +kernel) rfl rfl
theorem xs_134_259 : xe_P d 134 259 ls st h Q = xe_P d 134 260 ls (.int 0 :: st) h Q := xe_P_ar (ins := .iconst 0) (len := 1) (by decide +kernel) rfl
theorem xs_134_260 : xe_P d 134 260 ls (.int v :: .ref a :: st) h Q = (xe_ob h a 7 ∧ xe_P d 134 263 ls st (xe_sI h a 32 v) Q) := xe_P_putI (i := 178) (by decide +kernel) (by decide +kernel) (by decide) (by decide +kernel) rfl
theorem xs_134_263 : xe_P d 134 263 [.ref a, l1, l2] st h Q = xe_P d 134 264 [.ref a, l1, l2] (.ref a :: st) h Q := xe_P_lo (ins := .aload_n 0) (len := 1) (by decide +kernel) rfl rfl
theorem xs_134_264 : xe_P d 134 264 ls (.ref a :: st) h Q = (xe_ob h a 7 ∧ xe_P d 134 267 ls (va_rf (xe_R h a 36) :: st) h Q) := xe_P_getR (i := 72) (by decide +kernel) (by decide +kernel) (by decide) rfl
theorem xs_134_267 : xe_P d 134 267 ls st h Q = xe_P d 134 268 ls (.int 0 :: st) h Q := xe_P_ar (ins := .iconst 0) (len := 1) (by decide +kernel) rfl
theorem xs_134_268 : xe_P d 134 268 ls st h Q = xe_P d 134 269 ls (.int 0 :: st) h Q := xe_P_ar (ins := .iconst 0) (len := 1) (by decide +kernel) rfl
theorem xs_134_269 (hT : xe_T h a = 10) : xe_P d 134 269 ls (.int x :: .int v :: .ref a :: st) h Q = ((xe_ob h a 10 ∧ xe_ix h a v) ∧ xe_P d 134 270 ls st (xe_sI h a v.toNatClampNeg x.toInt8.toInt32) Q) := xe_P_bastB (by decide +kernel) hT
theorem xs_134_269z (hT : xe_T h a = 11) : xe_P d 134 269 ls (.int x :: .int v :: .ref a :: st) h Q = ((xe_ob h a 11 ∧ xe_ix h a v ∧ (x = 0 ∨ x = 1)) ∧ xe_P d 134 270 ls st (xe_sI h a v.toNatClampNeg x) Q) := xe_P_bastZ (by decide +kernel) hT
theorem xs_134_270 : xe_P d 134 270 [.ref a, l1, l2] st h Q = xe_P d 134 271 [.ref a, l1, l2] (.ref a :: st) h Q := xe_P_lo (ins := .aload_n 0) (len := 1) (by decide +kernel) rfl rfl
theorem xs_134_271 : xe_P d 134 271 ls (.ref a :: st) h Q = (xe_ob h a 7 ∧ xe_P d 134 274 ls (va_rf (xe_R h a 36) :: st) h Q) := xe_P_getR (i := 72) (by decide +kernel) (by decide +kernel) (by decide) rfl
theorem xs_134_274 : xe_P d 134 274 ls st h Q = xe_P d 134 275 ls (.int 1 :: st) h Q := xe_P_ar (ins := .iconst 1) (len := 1) (by decide +kernel) rfl
theorem xs_134_275 : xe_P d 134 275 ls st h Q = xe_P d 134 276 ls (.int 0 :: st) h Q := xe_P_ar (ins := .iconst 0) (len := 1) (by decide +kernel) rfl
theorem xs_134_276 (hT : xe_T h a = 10) : xe_P d 134 276 ls (.int x :: .int v :: .ref a :: st) h Q = ((xe_ob h a 10 ∧ xe_ix h a v) ∧ xe_P d 134 277 ls st (xe_sI h a v.toNatClampNeg x.toInt8.toInt32) Q) := xe_P_bastB (by decide +kernel) hT
theorem xs_134_276z (hT : xe_T h a = 11) : xe_P d 134 276 ls (.int x :: .int v :: .ref a :: st) h Q = ((xe_ob h a 11 ∧ xe_ix h a v ∧ (x = 0 ∨ x = 1)) ∧ xe_P d 134 277 ls st (xe_sI h a v.toNatClampNeg x) Q) := xe_P_bastZ (by decide +kernel) hT
theorem xs_134_277 : xe_P d 134 277 [l0, .int x, l2] st h Q = xe_P d 134 278 [l0, .int x, l2] (.int x :: st) h Q := xe_P_lo (ins := .iload_n 1) (len := 1) (by decide +kernel) rfl rfl
theorem xs_134_278 : xe_P d 134 278 ls [.int x] h Q = Q (some (.int x)) h := xe_P_ireturn (by decide +kernel) rfl
theorem xs_134 : xe_C (d + 1) 134 [.ref a] h Q = xe_P d 134 0 [.ref a, .retAddr 0, .retAddr 0] [] h Q := xe_C_at (Nat.le_of_ble_eq_true rfl) rfl
theorem xs_135_0 : xe_P d 135 0 [.ref a] st h Q = xe_P d 135 1 [.ref a] (.ref a :: st) h Q := xe_P_lo (ins := .aload_n 0) (len := 1) (by decide +kernel) rfl rfl
theorem xs_135_1 : xe_P d 135 1 ls (.ref a :: st) h Q = (xe_ob h a 7 ∧ xe_P d 135 4 ls (.int (xe_I h a 13) :: st) h Q) := xe_P_getI (i := 175) (by decide +kernel) (by decide +kernel) (by decide) rfl
theorem xs_135_4 : xe_P d 135 4 ls [.int x] h Q = Q (some (.int x)) h := xe_P_ireturn (by decide +kernel) rfl
theorem xs_135 : xe_C (d + 1) 135 [.ref a] h Q = xe_P d 135 0 [.ref a] [] h Q := xe_C_at (Nat.le_of_ble_eq_true rfl) rfl
theorem xs_136_0 : xe_P d 136 0 [.ref a] st h Q = xe_P d 136 1 [.ref a] (.ref a :: st) h Q := xe_P_lo (ins := .aload_n 0) (len := 1) (by decide +kernel) rfl rfl
theorem xs_136_1 : xe_P d 136 1 ls (.ref a :: st) h Q = (xe_ob h a 7 ∧ xe_P d 136 4 ls (va_rf (xe_R h a 0) :: st) h Q) := xe_P_getR (i := 7) (by decide +kernel) (by decide +kernel) (by decide) rfl
theorem xs_136_4 : xe_P d 136 4 ls st h Q = xe_P d 136 6 ls (.int 24 :: st) h Q := xe_P_ar (ins := .bipush 24) (len := 2) (by decide +kernel) rfl
theorem xs_136_6 : xe_P d 136 6 ls (.int v :: .ref a :: st) h Q = ((xe_ia h a ∧ xe_ix h a v) ∧ xe_P d 136 7 ls (.int (xe_I h a v.toNatClampNeg) :: st) h Q) := xe_P_iald (by decide +kernel)
theorem xs_136_7 : xe_P d 136 7 ls [.int x] h Q = Q (some (.int x)) h := xe_P_ireturn (by decide +kernel) rfl
theorem xs_136 : xe_C (d + 1) 136 [.ref a] h Q = xe_P d 136 0 [.ref a] [] h Q := xe_C_at (Nat.le_of_ble_eq_true rfl) rfl
theorem xs_137_0 : xe_P d 137 0 [l0, .int x] st h Q = xe_P d 137 1 [l0, .int x] (.int x :: st) h Q := xe_P_lo (ins := .iload_n 1) (len := 1) (by decide +kernel) rfl rfl
theorem xs_137_1 : xe_P d 137 1 ls (.int x :: st) h Q = xe_P d 137 2 ls (.long x.toInt64 :: st) h Q := xe_P_ar (ins := .i2l) (len := 1) (by decide +kernel) rfl
theorem xs_137_2 : xe_P d 137 2 ls st h Q = xe_P d 137 3 ls (.long 0 :: st) h Q := xe_P_ar (ins := .lconst 0) (len := 1) (by decide +kernel) rfl
theorem xs_137_3 : xe_P d 137 3 [.ref a, l1] st h Q = xe_P d 137 4 [.ref a, l1] (.ref a :: st) h Q := xe_P_lo (ins := .aload_n 0) (len := 1) (by decide +kernel) rfl rfl
theorem xs_137_4 : xe_P d 137 4 ls (.ref a :: st) h Q = ((xe_w st ≤ 8 ∧ xe_ob h a 7) ∧ xe_C d 136 [.ref a] h (fun r h' => xe_P d 137 7 ls (r.toList ++ st) h' Q)) := xe_P_ivv (y := 137) (pc := 4) (z := 136) (i := 181) (vs := []) (by decide +kernel) (by decide +kernel) rfl (by decide +kernel)
theorem xs_137_7 : xe_P d 137 7 ls st h Q = xe_P d 137 8 ls (.int 1 :: st) h Q := xe_P_ar (ins := .iconst 1) (len := 1) (by decide +kernel) rfl
theorem xs_137_8 : xe_P d 137 8 ls (.int v :: .int x :: st) h Q = xe_P d 137 9 ls (.int (x - v) :: st) h Q := xe_P_ar (ins := .isub) (len := 1) (by decide +kernel) rfl
theorem xs_137_9 : xe_P d 137 9 ls (.int x :: st) h Q = xe_P d 137 10 ls (.long x.toInt64 :: st) h Q := xe_P_ar (ins := .i2l) (len := 1) (by decide +kernel) rfl
theorem xs_137_10 : xe_P d 137 10 ls (v2 :: v1 :: v0 :: st) h Q = (xe_w st ≤ 8 ∧ xe_C d 120 [v0, v1, v2] h (fun r h' => xe_P d 137 13 ls (r.toList ++ st) h' Q)) := xe_P_ivs (y := 137) (pc := 10) (z := 120) (i := 88) (vs := [v2, v1, v0]) (by decide +kernel) (by decide +kernel) rfl
theorem xs_137_13 : xe_P d 137 13 ls [.int x] h Q = ((x = 0 ∨ x = 1) ∧ Q (some (.int x)) h) := xe_P_zreturn (by decide +kernel) rfl
theorem xs_137 : xe_C (d + 1) 137 [.ref a, .int x0] h Q = xe_P d 137 0 [.ref a, .int x0] [] h Q := xe_C_at (Nat.le_of_ble_eq_true rfl) rfl
theorem xs_138_0 : xe_P d 138 0 [l0, .int x] st h Q = xe_P d 138 1 [l0, .int x] (.int x :: st) h Q := xe_P_lo (ins := .iload_n 1) (len := 1) (by decide +kernel) rfl rfl
theorem xs_138_1 : xe_P d 138 1 ls (.int x :: st) h Q = xe_P d 138 2 ls (.long x.toInt64 :: st) h Q := xe_P_ar (ins := .i2l) (len := 1) (by decide +kernel) rfl
theorem xs_138_2 : xe_P d 138 2 ls st h Q = xe_P d 138 3 ls (.long 0 :: st) h Q := xe_P_ar (ins := .lconst 0) (len := 1) (by decide +kernel) rfl
theorem xs_138_3 : xe_P d 138 3 [.ref a, l1] st h Q = xe_P d 138 4 [.ref a, l1] (.ref a :: st) h Q := xe_P_lo (ins := .aload_n 0) (len := 1) (by decide +kernel) rfl rfl
theorem xs_138_4 : xe_P d 138 4 ls (.ref a :: st) h Q = (xe_ob h a 7 ∧ xe_P d 138 7 ls (va_rf (xe_R h a 0) :: st) h Q) := xe_P_getR (i := 7) (by decide +kernel) (by decide +kernel) (by decide) rfl
theorem xs_138_7 : xe_P d 138 7 ls st h Q = xe_P d 138 9 ls (.int 31 :: st) h Q := xe_P_ar (ins := .bipush 31) (len := 2) (by decide +kernel) rfl
theorem xs_138_9 : xe_P d 138 9 ls (.int v :: .ref a :: st) h Q = ((xe_ia h a ∧ xe_ix h a v) ∧ xe_P d 138 10 ls (.int (xe_I h a v.toNatClampNeg) :: st) h Q) := xe_P_iald (by decide +kernel)
theorem xs_138_10 : xe_P d 138 10 ls st h Q = xe_P d 138 11 ls (.int 1 :: st) h Q := xe_P_ar (ins := .iconst 1) (len := 1) (by decide +kernel) rfl
theorem xs_138_11 : xe_P d 138 11 ls (.int v :: .int x :: st) h Q = xe_P d 138 12 ls (.int (x - v) :: st) h Q := xe_P_ar (ins := .isub) (len := 1) (by decide +kernel) rfl
theorem xs_138_12 : xe_P d 138 12 ls (.int x :: st) h Q = xe_P d 138 13 ls (.long x.toInt64 :: st) h Q := xe_P_ar (ins := .i2l) (len := 1) (by decide +kernel) rfl
theorem xs_138_13 : xe_P d 138 13 ls (v2 :: v1 :: v0 :: st) h Q = (xe_w st ≤ 8 ∧ xe_C d 120 [v0, v1, v2] h (fun r h' => xe_P d 138 16 ls (r.toList ++ st) h' Q)) := xe_P_ivs (y := 138) (pc := 13) (z := 120) (i := 88) (vs := [v2, v1, v0]) (by decide +kernel) (by decide +kernel) rfl
theorem xs_138_16 : xe_P d 138 16 ls [.int x] h Q = ((x = 0 ∨ x = 1) ∧ Q (some (.int x)) h) := xe_P_zreturn (by decide +kernel) rfl
theorem xs_138 : xe_C (d + 1) 138 [.ref a, .int x0] h Q = xe_P d 138 0 [.ref a, .int x0] [] h Q := xe_C_at (Nat.le_of_ble_eq_true rfl) rfl
theorem xs_139_0 : xe_P d 139 0 [.ref a, l1, l2] st h Q = xe_P d 139 1 [.ref a, l1, l2] (.ref a :: st) h Q := xe_P_lo (ins := .aload_n 0) (len := 1) (by decide +kernel) rfl rfl
theorem xs_139_1 : xe_P d 139 1 [l0, .int x, l2] st h Q = xe_P d 139 2 [l0, .int x, l2] (.int x :: st) h Q := xe_P_lo (ins := .iload_n 1) (len := 1) (by decide +kernel) rfl rfl
theorem xs_139_2 : xe_P d 139 2 ls (v0 :: .ref a :: st) h Q = ((xe_w st ≤ 8 ∧ xe_ob h a 7) ∧ xe_C d 138 [.ref a, v0] h (fun r h' => xe_P d 139 5 ls (r.toList ++ st) h' Q)) := xe_P_ivv (y := 139) (pc := 2) (z := 138) (i := 184) (vs := [v0]) (by decide +kernel) (by decide +kernel) rfl (by decide +kernel)
theorem xs_139_5 : xe_P d 139 5 ls (.int x :: st) h Q = (if x = 0 then xe_P d 139 25 ls st h Q else xe_P d 139 8 ls st h Q) := xe_P_if (ins := .ifCond .eq 20) (len := 3) (off := 20) (by decide +kernel) (by decide) rfl rfl rfl
theorem xs_139_8 : xe_P d 139 8 [.ref a, l1, l2] st h Q = xe_P d 139 9 [.ref a, l1, l2] (.ref a :: st) h Q := xe_P_lo (ins := .aload_n 0) (len := 1) (by decide +kernel) rfl rfl
theorem xs_139_9 : xe_P d 139 9 [l0, l1, .int x] st h Q = xe_P d 139 10 [l0, l1, .int x] (.int x :: st) h Q := xe_P_lo (ins := .iload_n 2) (len := 1) (by decide +kernel) rfl rfl
theorem xs_139_10 : xe_P d 139 10 ls (v0 :: .ref a :: st) h Q = ((xe_w st ≤ 8 ∧ xe_ob h a 7) ∧ xe_C d 138 [.ref a, v0] h (fun r h' => xe_P d 139 13 ls (r.toList ++ st) h' Q)) := xe_P_ivv (y := 139) (pc := 10) (z := 138) (i := 184) (vs := [v0]) (by decide +kernel) (by decide +kernel) rfl (by decide +kernel)
theorem xs_139_13 : xe_P d 139 13 ls (.int x :: st) h Q = (if x = 0 then xe_P d 139 25 ls st h Q else xe_P d 139 16 ls st h Q) := xe_P_if (ins := .ifCond .eq 12) (len := 3) (off := 12) (by decide +kernel) (by decide) rfl rfl rfl
theorem xs_139_16 : xe_P d 139 16 [l0, .int x, l2] st h Q = xe_P d 139 17 [l0, .int x, l2] (.int x :: st) h Q := xe_P_lo (ins := .iload_n 1) (len := 1) (by decide +kernel) rfl rfl
theorem xs_139_17 : xe_P d 139 17 [l0, l1, .int x] st h Q = xe_P d 139 18 [l0, l1, .int x] (.int x :: st) h Q := xe_P_lo (ins := .iload_n 2) (len := 1) (by decide +kernel) rfl rfl
theorem xs_139_18 : xe_P d 139 18 ls (.int v :: .int x :: st) h Q = (if x = v then xe_P d 139 25 ls st h Q else xe_P d 139 21 ls st h Q) := xe_P_if (ins := .if_icmp .eq 7) (len := 3) (off := 7) (by decide +kernel) (by decide) rfl rfl rfl
theorem xs_139_21 : xe_P d 139 21 ls st h Q = xe_P d 139 22 ls (.int 1 :: st) h Q := xe_P_ar (ins := .iconst 1) (len := 1) (by decide +kernel) rfl
theorem xs_139_22 : xe_P d 139 22 ls st h Q = xe_P d 139 26 ls st h Q := xe_P_go (len := 3) (off := 4) (by decide +kernel) (by decide)
theorem xs_139_25 : xe_P d 139 25 ls st h Q = xe_P d 139 26 ls (.int 0 :: st) h Q := xe_P_ar (ins := .iconst 0) (len := 1) (by decide +kernel) rfl
theorem xs_139_26 : xe_P d 139 26 ls [.int x] h Q = ((x = 0 ∨ x = 1) ∧ Q (some (.int x)) h) := xe_P_zreturn (by decide +kernel) rfl
theorem xs_139 : xe_C (d + 1) 139 [.ref a, .int x0, .int x1] h Q = xe_P d 139 0 [.ref a, .int x0, .int x1] [] h Q := xe_C_at (Nat.le_of_ble_eq_true rfl) rfl
theorem xs_140_0 : xe_P d 140 0 [.ref a, l1] st h Q = xe_P d 140 1 [.ref a, l1] (.ref a :: st) h Q := xe_P_lo (ins := .aload_n 0) (len := 1) (by decide +kernel) rfl rfl
theorem xs_140_1 : xe_P d 140 1 ls (.ref a :: st) h Q = (xe_ob h a 7 ∧ xe_P d 140 4 ls (va_rf (xe_R h a 0) :: st) h Q) := xe_P_getR (i := 7) (by decide +kernel) (by decide +kernel) (by decide) rfl
theorem xs_140_4 : xe_P d 140 4 ls st h Q = xe_P d 140 6 ls (.int 25 :: st) h Q := xe_P_ar (ins := .bipush 25) (len := 2) (by decide +kernel) rfl
theorem xs_140_6 : xe_P d 140 6 ls st h Q = xe_P d 140 7 ls (.int 2 :: st) h Q := xe_P_ar (ins := .iconst 2) (len := 1) (by decide +kernel) rfl
theorem xs_140_7 : xe_P d 140 7 [l0, .int x] st h Q = xe_P d 140 8 [l0, .int x] (.int x :: st) h Q := xe_P_lo (ins := .iload_n 1) (len := 1) (by decide +kernel) rfl rfl
theorem xs_140_8 : xe_P d 140 8 ls (.int v :: .int x :: st) h Q = xe_P d 140 9 ls (.int (x * v) :: st) h Q := xe_P_ar (ins := .imul) (len := 1) (by decide +kernel) rfl
theorem xs_140_9 : xe_P d 140 9 ls (.int v :: .int x :: st) h Q = xe_P d 140 10 ls (.int (x + v) :: st) h Q := xe_P_ar (ins := .iadd) (len := 1) (by decide +kernel) rfl
theorem xs_140_10 : xe_P d 140 10 ls (.int v :: .ref a :: st) h Q = ((xe_ia h a ∧ xe_ix h a v) ∧ xe_P d 140 11 ls (.int (xe_I h a v.toNatClampNeg) :: st) h Q) := xe_P_iald (by decide +kernel)
theorem xs_140_11 : xe_P d 140 11 ls [.int x] h Q = Q (some (.int x)) h := xe_P_ireturn (by decide +kernel) rfl
theorem xs_140 : xe_C (d + 1) 140 [.ref a, .int x0] h Q = xe_P d 140 0 [.ref a, .int x0] [] h Q := xe_C_at (Nat.le_of_ble_eq_true rfl) rfl
theorem xs_141_0 : xe_P d 141 0 [.ref a, l1] st h Q = xe_P d 141 1 [.ref a, l1] (.ref a :: st) h Q := xe_P_lo (ins := .aload_n 0) (len := 1) (by decide +kernel) rfl rfl
theorem xs_141_1 : xe_P d 141 1 ls (.ref a :: st) h Q = (xe_ob h a 7 ∧ xe_P d 141 4 ls (va_rf (xe_R h a 0) :: st) h Q) := xe_P_getR (i := 7) (by decide +kernel) (by decide +kernel) (by decide) rfl
theorem xs_141_4 : xe_P d 141 4 ls st h Q = xe_P d 141 6 ls (.int 25 :: st) h Q := xe_P_ar (ins := .bipush 25) (len := 2) (by decide +kernel) rfl
theorem xs_141_6 : xe_P d 141 6 ls st h Q = xe_P d 141 7 ls (.int 2 :: st) h Q := xe_P_ar (ins := .iconst 2) (len := 1) (by decide +kernel) rfl
theorem xs_141_7 : xe_P d 141 7 [l0, .int x] st h Q = xe_P d 141 8 [l0, .int x] (.int x :: st) h Q := xe_P_lo (ins := .iload_n 1) (len := 1) (by decide +kernel) rfl rfl
theorem xs_141_8 : xe_P d 141 8 ls (.int v :: .int x :: st) h Q = xe_P d 141 9 ls (.int (x * v) :: st) h Q := xe_P_ar (ins := .imul) (len := 1) (by decide +kernel) rfl
theorem xs_141_9 : xe_P d 141 9 ls (.int v :: .int x :: st) h Q = xe_P d 141 10 ls (.int (x + v) :: st) h Q := xe_P_ar (ins := .iadd) (len := 1) (by decide +kernel) rfl
theorem xs_141_10 : xe_P d 141 10 ls st h Q = xe_P d 141 11 ls (.int 1 :: st) h Q := xe_P_ar (ins := .iconst 1) (len := 1) (by decide +kernel) rfl
theorem xs_141_11 : xe_P d 141 11 ls (.int v :: .int x :: st) h Q = xe_P d 141 12 ls (.int (x + v) :: st) h Q := xe_P_ar (ins := .iadd) (len := 1) (by decide +kernel) rfl
theorem xs_141_12 : xe_P d 141 12 ls (.int v :: .ref a :: st) h Q = ((xe_ia h a ∧ xe_ix h a v) ∧ xe_P d 141 13 ls (.int (xe_I h a v.toNatClampNeg) :: st) h Q) := xe_P_iald (by decide +kernel)
theorem xs_141_13 : xe_P d 141 13 ls [.int x] h Q = Q (some (.int x)) h := xe_P_ireturn (by decide +kernel) rfl
theorem xs_141 : xe_C (d + 1) 141 [.ref a, .int x0] h Q = xe_P d 141 0 [.ref a, .int x0] [] h Q := xe_C_at (Nat.le_of_ble_eq_true rfl) rfl
theorem xs_142_0 : xe_P d 142 0 [.ref a] st h Q = xe_P d 142 1 [.ref a] (.ref a :: st) h Q := xe_P_lo (ins := .aload_n 0) (len := 1) (by decide +kernel) rfl rfl
theorem xs_142_1 : xe_P d 142 1 ls (.ref a :: st) h Q = (xe_ob h a 7 ∧ xe_P d 142 4 ls (va_rf (xe_R h a 0) :: st) h Q) := xe_P_getR (i := 7) (by decide +kernel) (by decide +kernel) (by decide) rfl
theorem xs_142_4 : xe_P d 142 4 ls st h Q = xe_P d 142 6 ls (.int 33 :: st) h Q := xe_P_ar (ins := .bipush 33) (len := 2) (by decide +kernel) rfl
theorem xs_142_6 : xe_P d 142 6 ls (.int v :: .ref a :: st) h Q = ((xe_ia h a ∧ xe_ix h a v) ∧ xe_P d 142 7 ls (.int (xe_I h a v.toNatClampNeg) :: st) h Q) := xe_P_iald (by decide +kernel)
theorem xs_142_7 : xe_P d 142 7 ls st h Q = xe_P d 142 8 ls (.int 2 :: st) h Q := xe_P_ar (ins := .iconst 2) (len := 1) (by decide +kernel) rfl
theorem xs_142_8 : xe_P d 142 8 ls (.int v :: .int x :: st) h Q = xe_P d 142 9 ls (.int (x + v) :: st) h Q := xe_P_ar (ins := .iadd) (len := 1) (by decide +kernel) rfl
theorem xs_142_9 : xe_P d 142 9 ls [.int x] h Q = Q (some (.int x)) h := xe_P_ireturn (by decide +kernel) rfl
theorem xs_142 : xe_C (d + 1) 142 [.ref a] h Q = xe_P d 142 0 [.ref a] [] h Q := xe_C_at (Nat.le_of_ble_eq_true rfl) rfl
theorem xs_143_0 : xe_P d 143 0 [l0, .int x] st h Q = xe_P d 143 1 [l0, .int x] (.int x :: st) h Q := xe_P_lo (ins := .iload_n 1) (len := 1) (by decide +kernel) rfl rfl
theorem xs_143_1 : xe_P d 143 1 ls (.int x :: st) h Q = (if x = 0 then xe_P d 143 40 ls st h Q else (if x = 1 then xe_P d 143 45 ls st h Q else (if x = 2 then xe_P d 143 50 ls st h Q else (if x = 3 then xe_P d 143 58 ls st h Q else (if x = 4 then xe_P d 143 66 ls st h Q else (if x = 5 then xe_P d 143 71 ls st h Q else xe_P d 143 79 ls st h Q)))))) := (xe_P_sw (dflt := 78) (hi := 5) (offs := #[39, 44, 49, 57, 65, 70]) (len := 39) (by decide +kernel) (by decide) (by decide)).trans rfl
theorem xs_143_40 : xe_P d 143 40 [.ref a, l1] st h Q = xe_P d 143 41 [.ref a, l1] (.ref a :: st) h Q := xe_P_lo (ins := .aload_n 0) (len := 1) (by decide +kernel) rfl rfl
theorem xs_143_41 : xe_P d 143 41 ls (.ref a :: st) h Q = (xe_ob h a 7 ∧ xe_P d 143 44 ls (.int (xe_I h a 1) :: st) h Q) := xe_P_getI (i := 13) (by decide +kernel) (by decide +kernel) (by decide) rfl
theorem xs_143_44 : xe_P d 143 44 ls [.int x] h Q = Q (some (.int x)) h := xe_P_ireturn (by decide +kernel) rfl
theorem xs_143_45 : xe_P d 143 45 [.ref a, l1] st h Q = xe_P d 143 46 [.ref a, l1] (.ref a :: st) h Q := xe_P_lo (ins := .aload_n 0) (len := 1) (by decide +kernel) rfl rfl
theorem xs_143_46 : xe_P d 143 46 ls (.ref a :: st) h Q = ((xe_w st ≤ 8 ∧ xe_ob h a 7) ∧ xe_C d 136 [.ref a] h (fun r h' => xe_P d 143 49 ls (r.toList ++ st) h' Q)) := xe_P_ivv (y := 143) (pc := 46) (z := 136) (i := 181) (vs := []) (by decide +kernel) (by decide +kernel) rfl (by decide +kernel)
theorem xs_143_49 : xe_P d 143 49 ls [.int x] h Q = Q (some (.int x)) h := xe_P_ireturn (by decide +kernel) rfl
theorem xs_143_50 : xe_P d 143 50 [.ref a, l1] st h Q = xe_P d 143 51 [.ref a, l1] (.ref a :: st) h Q := xe_P_lo (ins := .aload_n 0) (len := 1) (by decide +kernel) rfl rfl
theorem xs_143_51 : xe_P d 143 51 ls (.ref a :: st) h Q = (xe_ob h a 7 ∧ xe_P d 143 54 ls (va_rf (xe_R h a 0) :: st) h Q) := xe_P_getR (i := 7) (by decide +kernel) (by decide +kernel) (by decide) rfl
theorem xs_143_54 : xe_P d 143 54 ls st h Q = xe_P d 143 56 ls (.int 31 :: st) h Q := xe_P_ar (ins := .bipush 31) (len := 2) (by decide +kernel) rfl
theorem xs_143_56 : xe_P d 143 56 ls (.int v :: .ref a :: st) h Q = ((xe_ia h a ∧ xe_ix h a v) ∧ xe_P d 143 57 ls (.int (xe_I h a v.toNatClampNeg) :: st) h Q) := xe_P_iald (by decide +kernel)
theorem xs_143_57 : xe_P d 143 57 ls [.int x] h Q = Q (some (.int x)) h := xe_P_ireturn (by decide +kernel) rfl
theorem xs_143_58 : xe_P d 143 58 [.ref a, l1] st h Q = xe_P d 143 59 [.ref a, l1] (.ref a :: st) h Q := xe_P_lo (ins := .aload_n 0) (len := 1) (by decide +kernel) rfl rfl
theorem xs_143_59 : xe_P d 143 59 ls (.ref a :: st) h Q = (xe_ob h a 7 ∧ xe_P d 143 62 ls (va_rf (xe_R h a 0) :: st) h Q) := xe_P_getR (i := 7) (by decide +kernel) (by decide +kernel) (by decide) rfl
theorem xs_143_62 : xe_P d 143 62 ls st h Q = xe_P d 143 64 ls (.int 32 :: st) h Q := xe_P_ar (ins := .bipush 32) (len := 2) (by decide +kernel) rfl
theorem xs_143_64 : xe_P d 143 64 ls (.int v :: .ref a :: st) h Q = ((xe_ia h a ∧ xe_ix h a v) ∧ xe_P d 143 65 ls (.int (xe_I h a v.toNatClampNeg) :: st) h Q) := xe_P_iald (by decide +kernel)
theorem xs_143_65 : xe_P d 143 65 ls [.int x] h Q = Q (some (.int x)) h := xe_P_ireturn (by decide +kernel) rfl
theorem xs_143_66 : xe_P d 143 66 [.ref a, l1] st h Q = xe_P d 143 67 [.ref a, l1] (.ref a :: st) h Q := xe_P_lo (ins := .aload_n 0) (len := 1) (by decide +kernel) rfl rfl
theorem xs_143_67 : xe_P d 143 67 ls (.ref a :: st) h Q = ((xe_w st ≤ 8 ∧ xe_ob h a 7) ∧ xe_C d 142 [.ref a] h (fun r h' => xe_P d 143 70 ls (r.toList ++ st) h' Q)) := xe_P_ivv (y := 143) (pc := 67) (z := 142) (i := 188) (vs := []) (by decide +kernel) (by decide +kernel) rfl (by decide +kernel)
theorem xs_143_70 : xe_P d 143 70 ls [.int x] h Q = Q (some (.int x)) h := xe_P_ireturn (by decide +kernel) rfl
theorem xs_143_71 : xe_P d 143 71 [.ref a, l1] st h Q = xe_P d 143 72 [.ref a, l1] (.ref a :: st) h Q := xe_P_lo (ins := .aload_n 0) (len := 1) (by decide +kernel) rfl rfl
theorem xs_143_72 : xe_P d 143 72 ls (.ref a :: st) h Q = (xe_ob h a 7 ∧ xe_P d 143 75 ls (va_rf (xe_R h a 0) :: st) h Q) := xe_P_getR (i := 7) (by decide +kernel) (by decide +kernel) (by decide) rfl
theorem xs_143_75 : xe_P d 143 75 ls st h Q = xe_P d 143 77 ls (.int 34 :: st) h Q := xe_P_ar (ins := .bipush 34) (len := 2) (by decide +kernel) rfl
theorem xs_143_77 : xe_P d 143 77 ls (.int v :: .ref a :: st) h Q = ((xe_ia h a ∧ xe_ix h a v) ∧ xe_P d 143 78 ls (.int (xe_I h a v.toNatClampNeg) :: st) h Q) := xe_P_iald (by decide +kernel)
theorem xs_143_78 : xe_P d 143 78 ls [.int x] h Q = Q (some (.int x)) h := xe_P_ireturn (by decide +kernel) rfl
theorem xs_143_79 : xe_P d 143 79 ls st h Q = xe_P d 143 80 ls (.int (-1) :: st) h Q := xe_P_ar (ins := .iconst (-1)) (len := 1) (by decide +kernel) rfl
theorem xs_143_80 : xe_P d 143 80 ls [.int x] h Q = Q (some (.int x)) h := xe_P_ireturn (by decide +kernel) rfl
theorem xs_143 : xe_C (d + 1) 143 [.ref a, .int x0] h Q = xe_P d 143 0 [.ref a, .int x0] [] h Q := xe_C_at (Nat.le_of_ble_eq_true rfl) rfl
theorem xs_144_0 : xe_P d 144 0 [.ref a, l1, l2] st h Q = xe_P d 144 1 [.ref a, l1, l2] (.ref a :: st) h Q := xe_P_lo (ins := .aload_n 0) (len := 1) (by decide +kernel) rfl rfl
theorem xs_144_1 : xe_P d 144 1 [l0, .int x, l2] st h Q = xe_P d 144 2 [l0, .int x, l2] (.int x :: st) h Q := xe_P_lo (ins := .iload_n 1) (len := 1) (by decide +kernel) rfl rfl
theorem xs_144_2 : xe_P d 144 2 ls (v0 :: .ref a :: st) h Q = ((xe_w st ≤ 8 ∧ xe_ob h a 7) ∧ xe_C d 137 [.ref a, v0] h (fun r h' => xe_P d 144 5 ls (r.toList ++ st) h' Q)) := xe_P_ivv (y := 144) (pc := 2) (z := 137) (i := 191) (vs := [v0]) (by decide +kernel) (by decide +kernel) rfl (by decide +kernel)
theorem xs_144_5 : xe_P d 144 5 ls (.int x :: st) h Q = (if x = 0 then xe_P d 144 33 ls st h Q else xe_P d 144 8 ls st h Q) := xe_P_if (ins := .ifCond .eq 28) (len := 3) (off := 28) (by decide +kernel) (by decide) rfl rfl rfl
theorem xs_144_8 : xe_P d 144 8 [l0, l1, .int x] st h Q = xe_P d 144 9 [l0, l1, .int x] (.int x :: st) h Q := xe_P_lo (ins := .iload_n 2) (len := 1) (by decide +kernel) rfl rfl
theorem xs_144_9 : xe_P d 144 9 ls (.int x :: st) h Q = xe_P d 144 10 ls (.long x.toInt64 :: st) h Q := xe_P_ar (ins := .i2l) (len := 1) (by decide +kernel) rfl
theorem xs_144_10 : xe_P d 144 10 ls st h Q = xe_P d 144 11 ls (.long 0 :: st) h Q := xe_P_ar (ins := .lconst 0) (len := 1) (by decide +kernel) rfl
theorem xs_144_11 : xe_P d 144 11 ls st h Q = xe_P d 144 14 ls (.long 3 :: st) h Q := xe_P_ldc2 (j := 194) (by decide +kernel) (by decide +kernel)
theorem xs_144_14 : xe_P d 144 14 ls (v2 :: v1 :: v0 :: st) h Q = (xe_w st ≤ 8 ∧ xe_C d 120 [v0, v1, v2] h (fun r h' => xe_P d 144 17 ls (r.toList ++ st) h' Q)) := xe_P_ivs (y := 144) (pc := 14) (z := 120) (i := 88) (vs := [v2, v1, v0]) (by decide +kernel) (by decide +kernel) rfl
theorem xs_144_17 : xe_P d 144 17 ls (.int x :: st) h Q = (if x = 0 then xe_P d 144 33 ls st h Q else xe_P d 144 20 ls st h Q) := xe_P_if (ins := .ifCond .eq 16) (len := 3) (off := 16) (by decide +kernel) (by decide) rfl rfl rfl
theorem xs_144_20 : xe_P d 144 20 [.ref a, l1, l2] st h Q = xe_P d 144 21 [.ref a, l1, l2] (.ref a :: st) h Q := xe_P_lo (ins := .aload_n 0) (len := 1) (by decide +kernel) rfl rfl
theorem xs_144_21 : xe_P d 144 21 ls (.ref a :: st) h Q = (xe_ob h a 7 ∧ xe_P d 144 24 ls (va_rf (xe_R h a 0) :: st) h Q) := xe_P_getR (i := 7) (by decide +kernel) (by decide +kernel) (by decide) rfl
theorem xs_144_24 : xe_P d 144 24 ls st h Q = xe_P d 144 25 ls (.int 4 :: st) h Q := xe_P_ar (ins := .iconst 4) (len := 1) (by decide +kernel) rfl
theorem xs_144_25 : xe_P d 144 25 [l0, .int x, l2] st h Q = xe_P d 144 26 [l0, .int x, l2] (.int x :: st) h Q := xe_P_lo (ins := .iload_n 1) (len := 1) (by decide +kernel) rfl rfl
theorem xs_144_26 : xe_P d 144 26 ls (.int v :: .int x :: st) h Q = xe_P d 144 27 ls (.int (x * v) :: st) h Q := xe_P_ar (ins := .imul) (len := 1) (by decide +kernel) rfl
theorem xs_144_27 : xe_P d 144 27 [l0, l1, .int x] st h Q = xe_P d 144 28 [l0, l1, .int x] (.int x :: st) h Q := xe_P_lo (ins := .iload_n 2) (len := 1) (by decide +kernel) rfl rfl
theorem xs_144_28 : xe_P d 144 28 ls (.int v :: .int x :: st) h Q = xe_P d 144 29 ls (.int (x + v) :: st) h Q := xe_P_ar (ins := .iadd) (len := 1) (by decide +kernel) rfl
theorem xs_144_29 : xe_P d 144 29 ls (.int v :: .ref a :: st) h Q = ((xe_ia h a ∧ xe_ix h a v) ∧ xe_P d 144 30 ls (.int (xe_I h a v.toNatClampNeg) :: st) h Q) := xe_P_iald (by decide +kernel)
theorem xs_144_30 : xe_P d 144 30 ls st h Q = xe_P d 144 34 ls st h Q := xe_P_go (len := 3) (off := 4) (by decide +kernel) (by decide)
theorem xs_144_33 : xe_P d 144 33 ls st h Q = xe_P d 144 34 ls (.int (-1) :: st) h Q := xe_P_ar (ins := .iconst (-1)) (len := 1) (by decide +kernel) rfl
theorem xs_144_34 : xe_P d 144 34 ls [.int x] h Q = Q (some (.int x)) h := xe_P_ireturn (by decide +kernel) rfl
theorem xs_144 : xe_C (d + 1) 144 [.ref a, .int x0, .int x1] h Q = xe_P d 144 0 [.ref a, .int x0, .int x1] [] h Q := xe_C_at (Nat.le_of_ble_eq_true rfl) rfl
theorem xs_145_0 : xe_P d 145 0 ls st h Q = xe_P d 145 1 ls (.int 0 :: st) h Q := xe_P_ar (ins := .iconst 0) (len := 1) (by decide +kernel) rfl
theorem xs_145_1 : xe_P d 145 1 [l0, l1] (.int x :: st) h Q = xe_P d 145 2 [xe_cut l0, .int x] st h Q := xe_P_lo (ins := .istore_n 1) (len := 1) (by decide +kernel) rfl rfl
theorem xs_145_2 : xe_P d 145 2 [l0, .int x] st h Q = xe_P d 145 3 [l0, .int x] (.int x :: st) h Q := xe_P_lo (ins := .iload_n 1) (len := 1) (by decide +kernel) rfl rfl
theorem xs_145_3 : xe_P d 145 3 ls st h Q = xe_P d 145 5 ls (.int 6 :: st) h Q := xe_P_ar (ins := .bipush 6) (len := 2) (by decide +kernel) rfl
theorem xs_145_5 : xe_P d 145 5 ls (.int v :: .int x :: st) h Q = (if v ≤ x then xe_P d 145 30 ls st h Q else xe_P d 145 8 ls st h Q) := xe_P_if (ins := .if_icmp .ge 25) (len := 3) (off := 25) (by decide +kernel) (by decide) rfl rfl rfl
theorem xs_145_8 : xe_P d 145 8 [.ref a, l1] st h Q = xe_P d 145 9 [.ref a, l1] (.ref a :: st) h Q := xe_P_lo (ins := .aload_n 0) (len := 1) (by decide +kernel) rfl rfl
theorem xs_145_9 : xe_P d 145 9 ls (.ref a :: st) h Q = (xe_ob h a 7 ∧ xe_P d 145 12 ls (va_rf (xe_R h a 22) :: st) h Q) := xe_P_getR (i := 35) (by decide +kernel) (by decide +kernel) (by decide) rfl
theorem xs_145_12 : xe_P d 145 12 [l0, .int x] st h Q = xe_P d 145 13 [l0, .int x] (.int x :: st) h Q := xe_P_lo (ins := .iload_n 1) (len := 1) (by decide +kernel) rfl rfl
theorem xs_145_13 : xe_P d 145 13 [.ref a, l1] st h Q = xe_P d 145 14 [.ref a, l1] (.ref a :: st) h Q := xe_P_lo (ins := .aload_n 0) (len := 1) (by decide +kernel) rfl rfl
theorem xs_145_14 : xe_P d 145 14 ls (.ref a :: st) h Q = (xe_ob h a 7 ∧ xe_P d 145 17 ls (va_rf (xe_R h a 0) :: st) h Q) := xe_P_getR (i := 7) (by decide +kernel) (by decide +kernel) (by decide) rfl
theorem xs_145_17 : xe_P d 145 17 ls st h Q = xe_P d 145 18 ls (.int 4 :: st) h Q := xe_P_ar (ins := .iconst 4) (len := 1) (by decide +kernel) rfl
theorem xs_145_18 : xe_P d 145 18 [l0, .int x] st h Q = xe_P d 145 19 [l0, .int x] (.int x :: st) h Q := xe_P_lo (ins := .iload_n 1) (len := 1) (by decide +kernel) rfl rfl
theorem xs_145_19 : xe_P d 145 19 ls (.int v :: .int x :: st) h Q = xe_P d 145 20 ls (.int (x * v) :: st) h Q := xe_P_ar (ins := .imul) (len := 1) (by decide +kernel) rfl
theorem xs_145_20 : xe_P d 145 20 ls st h Q = xe_P d 145 21 ls (.int 3 :: st) h Q := xe_P_ar (ins := .iconst 3) (len := 1) (by decide +kernel) rfl
theorem xs_145_21 : xe_P d 145 21 ls (.int v :: .int x :: st) h Q = xe_P d 145 22 ls (.int (x + v) :: st) h Q := xe_P_ar (ins := .iadd) (len := 1) (by decide +kernel) rfl
theorem xs_145_22 : xe_P d 145 22 ls (.int v :: .ref a :: st) h Q = ((xe_ia h a ∧ xe_ix h a v) ∧ xe_P d 145 23 ls (.int (xe_I h a v.toNatClampNeg) :: st) h Q) := xe_P_iald (by decide +kernel)
theorem xs_145_23 : xe_P d 145 23 ls (.int x :: .int v :: .ref a :: st) h Q = ((xe_ob h a 8 ∧ xe_ix h a v) ∧ xe_P d 145 24 ls st (xe_sI h a v.toNatClampNeg x) Q) := xe_P_iast (by decide +kernel)
theorem xs_145_24 : xe_P d 145 24 [l0, .int x] st h Q = xe_P d 145 27 [xe_cut l0, .int (x + 1)] st h Q := xe_P_lo (ins := .iinc 1 1) (len := 3) (by decide +kernel) rfl rfl
theorem xs_145_27 : xe_P d 145 27 ls st h Q = xe_P d 145 2 ls st h Q := xe_P_go (len := 3) (off := (-25)) (by decide +kernel) (by decide)
theorem xs_145_30 : xe_P d 145 30 ls [] h Q = Q none h := xe_P_vreturn (by decide +kernel) rfl
theorem xs_145 : xe_C (d + 1) 145 [.ref a] h Q = xe_P d 145 0 [.ref a, .retAddr 0] [] h Q := xe_C_at (Nat.le_of_ble_eq_true rfl) rfl
theorem xs_146_0 : xe_P d 146 0 ls st h Q = xe_P d 146 1 ls (.int 0 :: st) h Q := xe_P_ar (ins := .iconst 0) (len := 1) (by decide +kernel) rfl
theorem xs_146_1 : xe_P d 146 1 [l0, l1, l2] (.int x :: st) h Q = xe_P d 146 2 [l0, xe_cut l1, .int x] st h Q := xe_P_lo (ins := .istore_n 2) (len := 1) (by decide +kernel) rfl rfl
theorem xs_146_2 : xe_P d 146 2 [l0, l1, .int x] st h Q = xe_P d 146 3 [l0, l1, .int x] (.int x :: st) h Q := xe_P_lo (ins := .iload_n 2) (len := 1) (by decide +kernel) rfl rfl
theorem xs_146_3 : xe_P d 146 3 ls st h Q = xe_P d 146 5 ls (.int 6 :: st) h Q := xe_P_ar (ins := .bipush 6) (len := 2) (by decide +kernel) rfl
theorem xs_146_5 : xe_P d 146 5 ls (.int v :: .int x :: st) h Q = (if v ≤ x then xe_P d 146 27 ls st h Q else xe_P d 146 8 ls st h Q) := xe_P_if (ins := .if_icmp .ge 22) (len := 3) (off := 22) (by decide +kernel) (by decide) rfl rfl rfl
theorem xs_146_8 : xe_P d 146 8 [.ref a, l1, l2] st h Q = xe_P d 146 9 [.ref a, l1, l2] (.ref a :: st) h Q := xe_P_lo (ins := .aload_n 0) (len := 1) (by decide +kernel) rfl rfl
theorem xs_146_9 : xe_P d 146 9 ls (.ref a :: st) h Q = (xe_ob h a 7 ∧ xe_P d 146 12 ls (va_rf (xe_R h a 22) :: st) h Q) := xe_P_getR (i := 35) (by decide +kernel) (by decide +kernel) (by decide) rfl
theorem xs_146_12 : xe_P d 146 12 [l0, l1, .int x] st h Q = xe_P d 146 13 [l0, l1, .int x] (.int x :: st) h Q := xe_P_lo (ins := .iload_n 2) (len := 1) (by decide +kernel) rfl rfl
theorem xs_146_13 : xe_P d 146 13 [l0, .int x, l2] st h Q = xe_P d 146 14 [l0, .int x, l2] (.int x :: st) h Q := xe_P_lo (ins := .iload_n 1) (len := 1) (by decide +kernel) rfl rfl
theorem xs_146_14 : xe_P d 146 14 ls st h Q = xe_P d 146 15 ls (.int 2 :: st) h Q := xe_P_ar (ins := .iconst 2) (len := 1) (by decide +kernel) rfl
theorem xs_146_15 : xe_P d 146 15 [l0, l1, .int x] st h Q = xe_P d 146 16 [l0, l1, .int x] (.int x :: st) h Q := xe_P_lo (ins := .iload_n 2) (len := 1) (by decide +kernel) rfl rfl
theorem xs_146_16 : xe_P d 146 16 ls (.int v :: .int x :: st) h Q = xe_P d 146 17 ls (.int (x * v) :: st) h Q := xe_P_ar (ins := .imul) (len := 1) (by decide +kernel) rfl
theorem xs_146_17 : xe_P d 146 17 ls (.int v :: .int x :: st) h Q = xe_P d 146 18 ls (.int (x >>> (v &&& 31)) :: st) h Q := xe_P_ar (ins := .ishr) (len := 1) (by decide +kernel) rfl
theorem xs_146_18 : xe_P d 146 18 ls st h Q = xe_P d 146 19 ls (.int 3 :: st) h Q := xe_P_ar (ins := .iconst 3) (len := 1) (by decide +kernel) rfl
theorem xs_146_19 : xe_P d 146 19 ls (.int v :: .int x :: st) h Q = xe_P d 146 20 ls (.int (x &&& v) :: st) h Q := xe_P_ar (ins := .iand) (len := 1) (by decide +kernel) rfl
theorem xs_146_20 : xe_P d 146 20 ls (.int x :: .int v :: .ref a :: st) h Q = ((xe_ob h a 8 ∧ xe_ix h a v) ∧ xe_P d 146 21 ls st (xe_sI h a v.toNatClampNeg x) Q) := xe_P_iast (by decide +kernel)
theorem xs_146_21 : xe_P d 146 21 [l0, l1, .int x] st h Q = xe_P d 146 24 [l0, xe_cut l1, .int (x + 1)] st h Q := xe_P_lo (ins := .iinc 2 1) (len := 3) (by decide +kernel) rfl rfl
theorem xs_146_24 : xe_P d 146 24 ls st h Q = xe_P d 146 2 ls st h Q := xe_P_go (len := 3) (off := (-22)) (by decide +kernel) (by decide)
theorem xs_146_27 : xe_P d 146 27 ls [] h Q = Q none h := xe_P_vreturn (by decide +kernel) rfl
theorem xs_146 : xe_C (d + 1) 146 [.ref a, .int x0] h Q = xe_P d 146 0 [.ref a, .int x0, .retAddr 0] [] h Q := xe_C_at (Nat.le_of_ble_eq_true rfl) rfl
theorem xs_147_0 : xe_P d 147 0 ls st h Q = xe_P d 147 1 ls (.int 0 :: st) h Q := xe_P_ar (ins := .iconst 0) (len := 1) (by decide +kernel) rfl
theorem xs_147_1 : xe_P d 147 1 [l0, l1, l2] (.int x :: st) h Q = xe_P d 147 2 [xe_cut l0, .int x, l2] st h Q := xe_P_lo (ins := .istore_n 1) (len := 1) (by decide +kernel) rfl rfl
theorem xs_147_2 : xe_P d 147 2 ls st h Q = xe_P d 147 3 ls (.int 0 :: st) h Q := xe_P_ar (ins := .iconst 0) (len := 1) (by decide +kernel) rfl
theorem xs_147_3 : xe_P d 147 3 [l0, l1, l2] (.int x :: st) h Q = xe_P d 147 4 [l0, xe_cut l1, .int x] st h Q := xe_P_lo (ins := .istore_n 2) (len := 1) (by decide +kernel) rfl rfl
theorem xs_147_4 : xe_P d 147 4 [l0, l1, .int x] st h Q = xe_P d 147 5 [l0, l1, .int x] (.int x :: st) h Q := xe_P_lo (ins := .iload_n 2) (len := 1) (by decide +kernel) rfl rfl
theorem xs_147_5 : xe_P d 147 5 ls st h Q = xe_P d 147 7 ls (.int 6 :: st) h Q := xe_P_ar (ins := .bipush 6) (len := 2) (by decide +kernel) rfl
theorem xs_147_7 : xe_P d 147 7 ls (.int v :: .int x :: st) h Q = (if v ≤ x then xe_P d 147 29 ls st h Q else xe_P d 147 10 ls st h Q) := xe_P_if (ins := .if_icmp .ge 22) (len := 3) (off := 22) (by decide +kernel) (by decide) rfl rfl rfl
theorem xs_147_10 : xe_P d 147 10 [l0, .int x, l2] st h Q = xe_P d 147 11 [l0, .int x, l2] (.int x :: st) h Q := xe_P_lo (ins := .iload_n 1) (len := 1) (by decide +kernel) rfl rfl
theorem xs_147_11 : xe_P d 147 11 [.ref a, l1, l2] st h Q = xe_P d 147 12 [.ref a, l1, l2] (.ref a :: st) h Q := xe_P_lo (ins := .aload_n 0) (len := 1) (by decide +kernel) rfl rfl
theorem xs_147_12 : xe_P d 147 12 ls (.ref a :: st) h Q = (xe_ob h a 7 ∧ xe_P d 147 15 ls (va_rf (xe_R h a 22) :: st) h Q) := xe_P_getR (i := 35) (by decide +kernel) (by decide +kernel) (by decide) rfl
theorem xs_147_15 : xe_P d 147 15 [l0, l1, .int x] st h Q = xe_P d 147 16 [l0, l1, .int x] (.int x :: st) h Q := xe_P_lo (ins := .iload_n 2) (len := 1) (by decide +kernel) rfl rfl
theorem xs_147_16 : xe_P d 147 16 ls (.int v :: .ref a :: st) h Q = ((xe_ia h a ∧ xe_ix h a v) ∧ xe_P d 147 17 ls (.int (xe_I h a v.toNatClampNeg) :: st) h Q) := xe_P_iald (by decide +kernel)
theorem xs_147_17 : xe_P d 147 17 ls st h Q = xe_P d 147 18 ls (.int 2 :: st) h Q := xe_P_ar (ins := .iconst 2) (len := 1) (by decide +kernel) rfl
theorem xs_147_18 : xe_P d 147 18 [l0, l1, .int x] st h Q = xe_P d 147 19 [l0, l1, .int x] (.int x :: st) h Q := xe_P_lo (ins := .iload_n 2) (len := 1) (by decide +kernel) rfl rfl
theorem xs_147_19 : xe_P d 147 19 ls (.int v :: .int x :: st) h Q = xe_P d 147 20 ls (.int (x * v) :: st) h Q := xe_P_ar (ins := .imul) (len := 1) (by decide +kernel) rfl
theorem xs_147_20 : xe_P d 147 20 ls (.int v :: .int x :: st) h Q = xe_P d 147 21 ls (.int (x <<< (v &&& 31)) :: st) h Q := xe_P_ar (ins := .ishl) (len := 1) (by decide +kernel) rfl
theorem xs_147_21 : xe_P d 147 21 ls (.int v :: .int x :: st) h Q = xe_P d 147 22 ls (.int (x ||| v) :: st) h Q := xe_P_ar (ins := .ior) (len := 1) (by decide +kernel) rfl
theorem xs_147_22 : xe_P d 147 22 [l0, l1, l2] (.int x :: st) h Q = xe_P d 147 23 [xe_cut l0, .int x, l2] st h Q := xe_P_lo (ins := .istore_n 1) (len := 1) (by decide +kernel) rfl rfl
theorem xs_147_23 : xe_P d 147 23 [l0, l1, .int x] st h Q = xe_P d 147 26 [l0, xe_cut l1, .int (x + 1)] st h Q := xe_P_lo (ins := .iinc 2 1) (len := 3) (by decide +kernel) rfl rfl
theorem xs_147_26 : xe_P d 147 26 ls st h Q = xe_P d 147 4 ls st h Q := xe_P_go (len := 3) (off := (-22)) (by decide +kernel) (by decide)
theorem xs_147_29 : xe_P d 147 29 [l0, .int x, l2] st h Q = xe_P d 147 30 [l0, .int x, l2] (.int x :: st) h Q := xe_P_lo (ins := .iload_n 1) (len := 1) (by decide +kernel) rfl rfl
theorem xs_147_30 : xe_P d 147 30 ls [.int x] h Q = Q (some (.int x)) h := xe_P_ireturn (by decide +kernel) rfl
theorem xs_147 : xe_C (d + 1) 147 [.ref a] h Q = xe_P d 147 0 [.ref a, .retAddr 0, .retAddr 0] [] h Q := xe_C_at (Nat.le_of_ble_eq_true rfl) rfl
theorem xs_148_0 : xe_P d 148 0 [.ref a, l1, l2] st h Q = xe_P d 148 1 [.ref a, l1, l2] (.ref a :: st) h Q := xe_P_lo (ins := .aload_n 0) (len := 1) (by decide +kernel) rfl rfl
theorem xs_148_1 : xe_P d 148 1 ls (.ref a :: st) h Q = (xe_ob h a 7 ∧ xe_P d 148 4 ls (va_rf (xe_R h a 22) :: st) h Q) := xe_P_getR (i := 35) (by decide +kernel) (by decide +kernel) (by decide) rfl
theorem xs_148_4 : xe_P d 148 4 [l0, .int x, l2] st h Q = xe_P d 148 5 [l0, .int x, l2] (.int x :: st) h Q := xe_P_lo (ins := .iload_n 1) (len := 1) (by decide +kernel) rfl rfl
theorem xs_148_5 : xe_P d 148 5 ls (.int v :: .ref a :: st) h Q = ((xe_ia h a ∧ xe_ix h a v) ∧ xe_P d 148 6 ls (.int (xe_I h a v.toNatClampNeg) :: st) h Q) := xe_P_iald (by decide +kernel)
theorem xs_148_6 : xe_P d 148 6 ls (.int x :: st) h Q = (if x = 0 then xe_P d 148 9 ls st h Q else xe_P d 148 39 ls st h Q) := xe_P_ifn (ins := .ifCond .ne 33) (len := 3) (off := 33) (by decide +kernel) (by decide) rfl rfl rfl
theorem xs_148_9 : xe_P d 148 9 [.ref a, l1, l2] st h Q = xe_P d 148 10 [.ref a, l1, l2] (.ref a :: st) h Q := xe_P_lo (ins := .aload_n 0) (len := 1) (by decide +kernel) rfl rfl
theorem xs_148_10 : xe_P d 148 10 ls (.ref a :: st) h Q = (xe_ob h a 7 ∧ xe_P d 148 13 ls (va_rf (xe_R h a 0) :: st) h Q) := xe_P_getR (i := 7) (by decide +kernel) (by decide +kernel) (by decide) rfl
theorem xs_148_13 : xe_P d 148 13 ls st h Q = xe_P d 148 14 ls (.int 4 :: st) h Q := xe_P_ar (ins := .iconst 4) (len := 1) (by decide +kernel) rfl
theorem xs_148_14 : xe_P d 148 14 [l0, .int x, l2] st h Q = xe_P d 148 15 [l0, .int x, l2] (.int x :: st) h Q := xe_P_lo (ins := .iload_n 1) (len := 1) (by decide +kernel) rfl rfl
theorem xs_148_15 : xe_P d 148 15 ls (.int v :: .int x :: st) h Q = xe_P d 148 16 ls (.int (x * v) :: st) h Q := xe_P_ar (ins := .imul) (len := 1) (by decide +kernel) rfl
theorem xs_148_16 : xe_P d 148 16 ls (.int v :: .ref a :: st) h Q = ((xe_ia h a ∧ xe_ix h a v) ∧ xe_P d 148 17 ls (.int (xe_I h a v.toNatClampNeg) :: st) h Q) := xe_P_iald (by decide +kernel)
theorem xs_148_17 : xe_P d 148 17 [l0, l1, .int x] st h Q = xe_P d 148 18 [l0, l1, .int x] (.int x :: st) h Q := xe_P_lo (ins := .iload_n 2) (len := 1) (by decide +kernel) rfl rfl
theorem xs_148_18 : xe_P d 148 18 ls (.int v :: .int x :: st) h Q = (if x = v then xe_P d 148 35 ls st h Q else xe_P d 148 21 ls st h Q) := xe_P_if (ins := .if_icmp .eq 17) (len := 3) (off := 17) (by decide +kernel) (by decide) rfl rfl rfl
theorem xs_148_21 : xe_P d 148 21 [.ref a, l1, l2] st h Q = xe_P d 148 22 [.ref a, l1, l2] (.ref a :: st) h Q := xe_P_lo (ins := .aload_n 0) (len := 1) (by decide +kernel) rfl rfl
theorem xs_148_22 : xe_P d 148 22 ls (.ref a :: st) h Q = (xe_ob h a 7 ∧ xe_P d 148 25 ls (va_rf (xe_R h a 0) :: st) h Q) := xe_P_getR (i := 7) (by decide +kernel) (by decide +kernel) (by decide) rfl
theorem xs_148_25 : xe_P d 148 25 ls st h Q = xe_P d 148 26 ls (.int 4 :: st) h Q := xe_P_ar (ins := .iconst 4) (len := 1) (by decide +kernel) rfl
theorem xs_148_26 : xe_P d 148 26 [l0, .int x, l2] st h Q = xe_P d 148 27 [l0, .int x, l2] (.int x :: st) h Q := xe_P_lo (ins := .iload_n 1) (len := 1) (by decide +kernel) rfl rfl
theorem xs_148_27 : xe_P d 148 27 ls (.int v :: .int x :: st) h Q = xe_P d 148 28 ls (.int (x * v) :: st) h Q := xe_P_ar (ins := .imul) (len := 1) (by decide +kernel) rfl
theorem xs_148_28 : xe_P d 148 28 ls st h Q = xe_P d 148 29 ls (.int 1 :: st) h Q := xe_P_ar (ins := .iconst 1) (len := 1) (by decide +kernel) rfl
theorem xs_148_29 : xe_P d 148 29 ls (.int v :: .int x :: st) h Q = xe_P d 148 30 ls (.int (x + v) :: st) h Q := xe_P_ar (ins := .iadd) (len := 1) (by decide +kernel) rfl
theorem xs_148_30 : xe_P d 148 30 ls (.int v :: .ref a :: st) h Q = ((xe_ia h a ∧ xe_ix h a v) ∧ xe_P d 148 31 ls (.int (xe_I h a v.toNatClampNeg) :: st) h Q) := xe_P_iald (by decide +kernel)
theorem xs_148_31 : xe_P d 148 31 [l0, l1, .int x] st h Q = xe_P d 148 32 [l0, l1, .int x] (.int x :: st) h Q := xe_P_lo (ins := .iload_n 2) (len := 1) (by decide +kernel) rfl rfl
theorem xs_148_32 : xe_P d 148 32 ls (.int v :: .int x :: st) h Q = (if x = v then xe_P d 148 35 ls st h Q else xe_P d 148 39 ls st h Q) := xe_P_ifn (ins := .if_icmp .ne 7) (len := 3) (off := 7) (by decide +kernel) (by decide) rfl rfl rfl
theorem xs_148_35 : xe_P d 148 35 ls st h Q = xe_P d 148 36 ls (.int 1 :: st) h Q := xe_P_ar (ins := .iconst 1) (len := 1) (by decide +kernel) rfl
theorem xs_148_36 : xe_P d 148 36 ls st h Q = xe_P d 148 40 ls st h Q := xe_P_go (len := 3) (off := 4) (by decide +kernel) (by decide)
theorem xs_148_39 : xe_P d 148 39 ls st h Q = xe_P d 148 40 ls (.int 0 :: st) h Q := xe_P_ar (ins := .iconst 0) (len := 1) (by decide +kernel) rfl
theorem xs_148_40 : xe_P d 148 40 ls [.int x] h Q = ((x = 0 ∨ x = 1) ∧ Q (some (.int x)) h) := xe_P_zreturn (by decide +kernel) rfl
theorem xs_148 : xe_C (d + 1) 148 [.ref a, .int x0, .int x1] h Q = xe_P d 148 0 [.ref a, .int x0, .int x1] [] h Q := xe_C_at (Nat.le_of_ble_eq_true rfl) rfl
theorem xs_149_0 : xe_P d 149 0 [.ref a, l1] st h Q = xe_P d 149 1 [.ref a, l1] (.ref a :: st) h Q := xe_P_lo (ins := .aload_n 0) (len := 1) (by decide +kernel) rfl rfl
theorem xs_149_1 : xe_P d 149 1 [l0, .int x] st h Q = xe_P d 149 2 [l0, .int x] (.int x :: st) h Q := xe_P_lo (ins := .iload_n 1) (len := 1) (by decide +kernel) rfl rfl
theorem xs_149_2 : xe_P d 149 2 ls (v0 :: .ref a :: st) h Q = ((xe_w st ≤ 8 ∧ xe_ob h a 7) ∧ xe_C d 137 [.ref a, v0] h (fun r h' => xe_P d 149 5 ls (r.toList ++ st) h' Q)) := xe_P_ivv (y := 149) (pc := 2) (z := 137) (i := 191) (vs := [v0]) (by decide +kernel) (by decide +kernel) rfl (by decide +kernel)
theorem xs_149_5 : xe_P d 149 5 ls (.int x :: st) h Q = (if x = 0 then xe_P d 149 20 ls st h Q else xe_P d 149 8 ls st h Q) := xe_P_if (ins := .ifCond .eq 15) (len := 3) (off := 15) (by decide +kernel) (by decide) rfl rfl rfl
theorem xs_149_8 : xe_P d 149 8 [.ref a, l1] st h Q = xe_P d 149 9 [.ref a, l1] (.ref a :: st) h Q := xe_P_lo (ins := .aload_n 0) (len := 1) (by decide +kernel) rfl rfl
theorem xs_149_9 : xe_P d 149 9 ls (.ref a :: st) h Q = (xe_ob h a 7 ∧ xe_P d 149 12 ls (va_rf (xe_R h a 22) :: st) h Q) := xe_P_getR (i := 35) (by decide +kernel) (by decide +kernel) (by decide) rfl
theorem xs_149_12 : xe_P d 149 12 [l0, .int x] st h Q = xe_P d 149 13 [l0, .int x] (.int x :: st) h Q := xe_P_lo (ins := .iload_n 1) (len := 1) (by decide +kernel) rfl rfl
theorem xs_149_13 : xe_P d 149 13 [.ref a, l1] st h Q = xe_P d 149 14 [.ref a, l1] (.ref a :: st) h Q := xe_P_lo (ins := .aload_n 0) (len := 1) (by decide +kernel) rfl rfl
theorem xs_149_14 : xe_P d 149 14 ls (.ref a :: st) h Q = ((xe_w st ≤ 8 ∧ xe_ob h a 7) ∧ xe_C d 142 [.ref a] h (fun r h' => xe_P d 149 17 ls (r.toList ++ st) h' Q)) := xe_P_ivv (y := 149) (pc := 14) (z := 142) (i := 188) (vs := []) (by decide +kernel) (by decide +kernel) rfl (by decide +kernel)
theorem xs_149_17 : xe_P d 149 17 ls st h Q = xe_P d 149 18 ls (.int 1 :: st) h Q := xe_P_ar (ins := .iconst 1) (len := 1) (by decide +kernel) rfl
theorem xs_149_18 : xe_P d 149 18 ls (.int v :: .int x :: st) h Q = xe_P d 149 19 ls (.int (x + v) :: st) h Q := xe_P_ar (ins := .iadd) (len := 1) (by decide +kernel) rfl
theorem xs_149_19 : xe_P d 149 19 ls (.int x :: .int v :: .ref a :: st) h Q = ((xe_ob h a 8 ∧ xe_ix h a v) ∧ xe_P d 149 20 ls st (xe_sI h a v.toNatClampNeg x) Q) := xe_P_iast (by decide +kernel)
theorem xs_149_20 : xe_P d 149 20 ls [] h Q = Q none h := xe_P_vreturn (by decide +kernel) rfl
theorem xs_149 : xe_C (d + 1) 149 [.ref a, .int x0] h Q = xe_P d 149 0 [.ref a, .int x0] [] h Q := xe_C_at (Nat.le_of_ble_eq_true rfl) rfl
theorem xs_150_0 : xe_P d 150 0 [.ref a, l1, l2, l3] st h Q = xe_P d 150 1 [.ref a, l1, l2, l3] (.ref a :: st) h Q := xe_P_lo (ins := .aload_n 0) (len := 1) (by decide +kernel) rfl rfl
theorem xs_150_1 : xe_P d 150 1 ls (.ref a :: st) h Q = (xe_ob h a 7 ∧ xe_P d 150 4 ls (va_rf (xe_R h a 0) :: st) h Q) := xe_P_getR (i := 7) (by decide +kernel) (by decide +kernel) (by decide) rfl
theorem xs_150_4 : xe_P d 150 4 ls st h Q = xe_P d 150 5 ls (.int 4 :: st) h Q := xe_P_ar (ins := .iconst 4) (len := 1) (by decide +kernel) rfl
theorem xs_150_5 : xe_P d 150 5 [l0, .int x, l2, l3] st h Q = xe_P d 150 6 [l0, .int x, l2, l3] (.int x :: st) h Q := xe_P_lo (ins := .iload_n 1) (len := 1) (by decide +kernel) rfl rfl
theorem xs_150_6 : xe_P d 150 6 ls (.int v :: .int x :: st) h Q = xe_P d 150 7 ls (.int (x * v) :: st) h Q := xe_P_ar (ins := .imul) (len := 1) (by decide +kernel) rfl
theorem xs_150_7 : xe_P d 150 7 ls st h Q = xe_P d 150 8 ls (.int 2 :: st) h Q := xe_P_ar (ins := .iconst 2) (len := 1) (by decide +kernel) rfl
theorem xs_150_8 : xe_P d 150 8 ls (.int v :: .int x :: st) h Q = xe_P d 150 9 ls (.int (x + v) :: st) h Q := xe_P_ar (ins := .iadd) (len := 1) (by decide +kernel) rfl
theorem xs_150_9 : xe_P d 150 9 ls (.int v :: .ref a :: st) h Q = ((xe_ia h a ∧ xe_ix h a v) ∧ xe_P d 150 10 ls (.int (xe_I h a v.toNatClampNeg) :: st) h Q) := xe_P_iald (by decide +kernel)
theorem xs_150_10 : xe_P d 150 10 [l0, l1, l2, l3] (.int x :: st) h Q = xe_P d 150 11 [l0, l1, xe_cut l2, .int x] st h Q := xe_P_lo (ins := .istore_n 3) (len := 1) (by decide +kernel) rfl rfl
theorem xs_150_11 : xe_P d 150 11 [.ref a, l1, l2, l3] st h Q = xe_P d 150 12 [.ref a, l1, l2, l3] (.ref a :: st) h Q := xe_P_lo (ins := .aload_n 0) (len := 1) (by decide +kernel) rfl rfl
theorem xs_150_12 : xe_P d 150 12 ls (.ref a :: st) h Q = (xe_ob h a 7 ∧ xe_P d 150 15 ls (va_rf (xe_R h a 0) :: st) h Q) := xe_P_getR (i := 7) (by decide +kernel) (by decide +kernel) (by decide) rfl
theorem xs_150_15 : xe_P d 150 15 ls st h Q = xe_P d 150 17 ls (.int 32 :: st) h Q := xe_P_ar (ins := .bipush 32) (len := 2) (by decide +kernel) rfl
theorem xs_150_17 : xe_P d 150 17 ls (.int v :: .ref a :: st) h Q = ((xe_ia h a ∧ xe_ix h a v) ∧ xe_P d 150 18 ls (.int (xe_I h a v.toNatClampNeg) :: st) h Q) := xe_P_iald (by decide +kernel)
theorem xs_150_18 : xe_P d 150 18 ls (.int x :: st) h Q = (if x = 0 then xe_P d 150 21 ls st h Q else xe_P d 150 29 ls st h Q) := xe_P_ifn (ins := .ifCond .ne 11) (len := 3) (off := 11) (by decide +kernel) (by decide) rfl rfl rfl
theorem xs_150_21 : xe_P d 150 21 [.ref a, l1, l2, l3] st h Q = xe_P d 150 22 [.ref a, l1, l2, l3] (.ref a :: st) h Q := xe_P_lo (ins := .aload_n 0) (len := 1) (by decide +kernel) rfl rfl
theorem xs_150_22 : xe_P d 150 22 [l0, l1, l2, .int x] st h Q = xe_P d 150 23 [l0, l1, l2, .int x] (.int x :: st) h Q := xe_P_lo (ins := .iload_n 3) (len := 1) (by decide +kernel) rfl rfl
theorem xs_150_23 : xe_P d 150 23 ls (v0 :: .ref a :: st) h Q = ((xe_w st ≤ 8 ∧ xe_ob h a 7) ∧ xe_C d 149 [.ref a, v0] h (fun r h' => xe_P d 150 26 ls (r.toList ++ st) h' Q)) := xe_P_ivv (y := 150) (pc := 23) (z := 149) (i := 196) (vs := [v0]) (by decide +kernel) (by decide +kernel) rfl (by decide +kernel)
theorem xs_150_26 : xe_P d 150 26 ls st h Q = xe_P d 150 75 ls st h Q := xe_P_go (len := 3) (off := 49) (by decide +kernel) (by decide)
theorem xs_150_29 : xe_P d 150 29 [.ref a, l1, l2, l3] st h Q = xe_P d 150 30 [.ref a, l1, l2, l3] (.ref a :: st) h Q := xe_P_lo (ins := .aload_n 0) (len := 1) (by decide +kernel) rfl rfl
theorem xs_150_30 : xe_P d 150 30 ls (.ref a :: st) h Q = (xe_ob h a 7 ∧ xe_P d 150 33 ls (va_rf (xe_R h a 0) :: st) h Q) := xe_P_getR (i := 7) (by decide +kernel) (by decide +kernel) (by decide) rfl
theorem xs_150_33 : xe_P d 150 33 ls st h Q = xe_P d 150 35 ls (.int 32 :: st) h Q := xe_P_ar (ins := .bipush 32) (len := 2) (by decide +kernel) rfl
theorem xs_150_35 : xe_P d 150 35 ls (.int v :: .ref a :: st) h Q = ((xe_ia h a ∧ xe_ix h a v) ∧ xe_P d 150 36 ls (.int (xe_I h a v.toNatClampNeg) :: st) h Q) := xe_P_iald (by decide +kernel)
theorem xs_150_36 : xe_P d 150 36 ls st h Q = xe_P d 150 37 ls (.int 1 :: st) h Q := xe_P_ar (ins := .iconst 1) (len := 1) (by decide +kernel) rfl
theorem xs_150_37 : xe_P d 150 37 ls (.int v :: .int x :: st) h Q = (if x = v then xe_P d 150 40 ls st h Q else xe_P d 150 61 ls st h Q) := xe_P_ifn (ins := .if_icmp .ne 24) (len := 3) (off := 24) (by decide +kernel) (by decide) rfl rfl rfl
theorem xs_150_40 : xe_P d 150 40 [.ref a, l1, l2, l3] st h Q = xe_P d 150 41 [.ref a, l1, l2, l3] (.ref a :: st) h Q := xe_P_lo (ins := .aload_n 0) (len := 1) (by decide +kernel) rfl rfl
theorem xs_150_41 : xe_P d 150 41 [l0, .int x, l2, l3] st h Q = xe_P d 150 42 [l0, .int x, l2, l3] (.int x :: st) h Q := xe_P_lo (ins := .iload_n 1) (len := 1) (by decide +kernel) rfl rfl
theorem xs_150_42 : xe_P d 150 42 ls (v0 :: .ref a :: st) h Q = ((xe_w st ≤ 8 ∧ xe_ob h a 7) ∧ xe_C d 149 [.ref a, v0] h (fun r h' => xe_P d 150 45 ls (r.toList ++ st) h' Q)) := xe_P_ivv (y := 150) (pc := 42) (z := 149) (i := 196) (vs := [v0]) (by decide +kernel) (by decide +kernel) rfl (by decide +kernel)
theorem xs_150_45 : xe_P d 150 45 [l0, l1, l2, .int x] st h Q = xe_P d 150 46 [l0, l1, l2, .int x] (.int x :: st) h Q := xe_P_lo (ins := .iload_n 3) (len := 1) (by decide +kernel) rfl rfl
theorem xs_150_46 : xe_P d 150 46 ls st h Q = xe_P d 150 48 ls (.int (-4) :: st) h Q := xe_P_ar (ins := .bipush (-4)) (len := 2) (by decide +kernel) rfl
theorem xs_150_48 : xe_P d 150 48 ls (.int v :: .int x :: st) h Q = (if x = v then xe_P d 150 75 ls st h Q else xe_P d 150 51 ls st h Q) := xe_P_if (ins := .if_icmp .eq 27) (len := 3) (off := 27) (by decide +kernel) (by decide) rfl rfl rfl
theorem xs_150_51 : xe_P d 150 51 [.ref a, l1, l2, l3] st h Q = xe_P d 150 52 [.ref a, l1, l2, l3] (.ref a :: st) h Q := xe_P_lo (ins := .aload_n 0) (len := 1) (by decide +kernel) rfl rfl
theorem xs_150_52 : xe_P d 150 52 ls (.ref a :: st) h Q = (xe_ob h a 7 ∧ xe_P d 150 55 ls (va_rf (xe_R h a 22) :: st) h Q) := xe_P_getR (i := 35) (by decide +kernel) (by decide +kernel) (by decide) rfl
theorem xs_150_55 : xe_P d 150 55 [l0, l1, l2, .int x] st h Q = xe_P d 150 56 [l0, l1, l2, .int x] (.int x :: st) h Q := xe_P_lo (ins := .iload_n 3) (len := 1) (by decide +kernel) rfl rfl
theorem xs_150_56 : xe_P d 150 56 ls st h Q = xe_P d 150 57 ls (.int 0 :: st) h Q := xe_P_ar (ins := .iconst 0) (len := 1) (by decide +kernel) rfl
theorem xs_150_57 : xe_P d 150 57 ls (.int x :: .int v :: .ref a :: st) h Q = ((xe_ob h a 8 ∧ xe_ix h a v) ∧ xe_P d 150 58 ls st (xe_sI h a v.toNatClampNeg x) Q) := xe_P_iast (by decide +kernel)
theorem xs_150_58 : xe_P d 150 58 ls st h Q = xe_P d 150 75 ls st h Q := xe_P_go (len := 3) (off := 17) (by decide +kernel) (by decide)
theorem xs_150_61 : xe_P d 150 61 [.ref a, l1, l2, l3] st h Q = xe_P d 150 62 [.ref a, l1, l2, l3] (.ref a :: st) h Q := xe_P_lo (ins := .aload_n 0) (len := 1) (by decide +kernel) rfl rfl
theorem xs_150_62 : xe_P d 150 62 [l0, .int x, l2, l3] st h Q = xe_P d 150 63 [l0, .int x, l2, l3] (.int x :: st) h Q := xe_P_lo (ins := .iload_n 1) (len := 1) (by decide +kernel) rfl rfl
theorem xs_150_63 : xe_P d 150 63 ls st h Q = xe_P d 150 64 ls (.int 1 :: st) h Q := xe_P_ar (ins := .iconst 1) (len := 1) (by decide +kernel) rfl
theorem xs_150_64 : xe_P d 150 64 ls (.int v :: .int x :: st) h Q = xe_P d 150 65 ls (.int (x - v) :: st) h Q := xe_P_ar (ins := .isub) (len := 1) (by decide +kernel) rfl
theorem xs_150_65 : xe_P d 150 65 ls (v0 :: .ref a :: st) h Q = ((xe_w st ≤ 8 ∧ xe_ob h a 7) ∧ xe_C d 149 [.ref a, v0] h (fun r h' => xe_P d 150 68 ls (r.toList ++ st) h' Q)) := xe_P_ivv (y := 150) (pc := 65) (z := 149) (i := 196) (vs := [v0]) (by decide +kernel) (by decide +kernel) rfl (by decide +kernel)
theorem xs_150_68 : xe_P d 150 68 [.ref a, l1, l2, l3] st h Q = xe_P d 150 69 [.ref a, l1, l2, l3] (.ref a :: st) h Q := xe_P_lo (ins := .aload_n 0) (len := 1) (by decide +kernel) rfl rfl
theorem xs_150_69 : xe_P d 150 69 [l0, .int x, l2, l3] st h Q = xe_P d 150 70 [l0, .int x, l2, l3] (.int x :: st) h Q := xe_P_lo (ins := .iload_n 1) (len := 1) (by decide +kernel) rfl rfl
theorem xs_150_70 : xe_P d 150 70 ls st h Q = xe_P d 150 71 ls (.int 1 :: st) h Q := xe_P_ar (ins := .iconst 1) (len := 1) (by decide +kernel) rfl
theorem xs_150_71 : xe_P d 150 71 ls (.int v :: .int x :: st) h Q = xe_P d 150 72 ls (.int (x + v) :: st) h Q := xe_P_ar (ins := .iadd) (len := 1) (by decide +kernel) rfl
theorem xs_150_72 : xe_P d 150 72 ls (v0 :: .ref a :: st) h Q = ((xe_w st ≤ 8 ∧ xe_ob h a 7) ∧ xe_C d 149 [.ref a, v0] h (fun r h' => xe_P d 150 75 ls (r.toList ++ st) h' Q)) := xe_P_ivv (y := 150) (pc := 72) (z := 149) (i := 196) (vs := [v0]) (by decide +kernel) (by decide +kernel) rfl (by decide +kernel)
theorem xs_150_75 : xe_P d 150 75 [.ref a, l1, l2, l3] st h Q = xe_P d 150 76 [.ref a, l1, l2, l3] (.ref a :: st) h Q := xe_P_lo (ins := .aload_n 0) (len := 1) (by decide +kernel) rfl rfl
theorem xs_150_76 : xe_P d 150 76 ls (.ref a :: st) h Q = (xe_ob h a 7 ∧ xe_P d 150 79 ls (va_rf (xe_R h a 0) :: st) h Q) := xe_P_getR (i := 7) (by decide +kernel) (by decide +kernel) (by decide) rfl
theorem xs_150_79 : xe_P d 150 79 ls st h Q = xe_P d 150 80 ls (.int 4 :: st) h Q := xe_P_ar (ins := .iconst 4) (len := 1) (by decide +kernel) rfl
theorem xs_150_80 : xe_P d 150 80 [l0, .int x, l2, l3] st h Q = xe_P d 150 81 [l0, .int x, l2, l3] (.int x :: st) h Q := xe_P_lo (ins := .iload_n 1) (len := 1) (by decide +kernel) rfl rfl
theorem xs_150_81 : xe_P d 150 81 ls (.int v :: .int x :: st) h Q = xe_P d 150 82 ls (.int (x * v) :: st) h Q := xe_P_ar (ins := .imul) (len := 1) (by decide +kernel) rfl
theorem xs_150_82 : xe_P d 150 82 ls (.int v :: .ref a :: st) h Q = ((xe_ia h a ∧ xe_ix h a v) ∧ xe_P d 150 83 ls (.int (xe_I h a v.toNatClampNeg) :: st) h Q) := xe_P_iald (by decide +kernel)
theorem xs_150_83 : xe_P d 150 83 [l0, l1, .int x, l3] st h Q = xe_P d 150 84 [l0, l1, .int x, l3] (.int x :: st) h Q := xe_P_lo (ins := .iload_n 2) (len := 1) (by decide +kernel) rfl rfl
theorem xs_150_84 : xe_P d 150 84 ls (.int v :: .int x :: st) h Q = (if x = v then xe_P d 150 87 ls st h Q else xe_P d 150 100 ls st h Q) := xe_P_ifn (ins := .if_icmp .ne 16) (len := 3) (off := 16) (by decide +kernel) (by decide) rfl rfl rfl
theorem xs_150_87 : xe_P d 150 87 [.ref a, l1, l2, l3] st h Q = xe_P d 150 88 [.ref a, l1, l2, l3] (.ref a :: st) h Q := xe_P_lo (ins := .aload_n 0) (len := 1) (by decide +kernel) rfl rfl
theorem xs_150_88 : xe_P d 150 88 ls (.ref a :: st) h Q = (xe_ob h a 7 ∧ xe_P d 150 91 ls (va_rf (xe_R h a 0) :: st) h Q) := xe_P_getR (i := 7) (by decide +kernel) (by decide +kernel) (by decide) rfl
theorem xs_150_91 : xe_P d 150 91 ls st h Q = xe_P d 150 92 ls (.int 4 :: st) h Q := xe_P_ar (ins := .iconst 4) (len := 1) (by decide +kernel) rfl
theorem xs_150_92 : xe_P d 150 92 [l0, .int x, l2, l3] st h Q = xe_P d 150 93 [l0, .int x, l2, l3] (.int x :: st) h Q := xe_P_lo (ins := .iload_n 1) (len := 1) (by decide +kernel) rfl rfl
theorem xs_150_93 : xe_P d 150 93 ls (.int v :: .int x :: st) h Q = xe_P d 150 94 ls (.int (x * v) :: st) h Q := xe_P_ar (ins := .imul) (len := 1) (by decide +kernel) rfl
theorem xs_150_94 : xe_P d 150 94 ls st h Q = xe_P d 150 95 ls (.int 1 :: st) h Q := xe_P_ar (ins := .iconst 1) (len := 1) (by decide +kernel) rfl
theorem xs_150_95 : xe_P d 150 95 ls (.int v :: .int x :: st) h Q = xe_P d 150 96 ls (.int (x + v) :: st) h Q := xe_P_ar (ins := .iadd) (len := 1) (by decide +kernel) rfl
theorem xs_150_96 : xe_P d 150 96 ls (.int v :: .ref a :: st) h Q = ((xe_ia h a ∧ xe_ix h a v) ∧ xe_P d 150 97 ls (.int (xe_I h a v.toNatClampNeg) :: st) h Q) := xe_P_iald (by decide +kernel)
theorem xs_150_97 : xe_P d 150 97 ls st h Q = xe_P d 150 108 ls st h Q := xe_P_go (len := 3) (off := 11) (by decide +kernel) (by decide)
theorem xs_150_100 : xe_P d 150 100 [.ref a, l1, l2, l3] st h Q = xe_P d 150 101 [.ref a, l1, l2, l3] (.ref a :: st) h Q := xe_P_lo (ins := .aload_n 0) (len := 1) (by decide +kernel) rfl rfl
theorem xs_150_101 : xe_P d 150 101 ls (.ref a :: st) h Q = (xe_ob h a 7 ∧ xe_P d 150 104 ls (va_rf (xe_R h a 0) :: st) h Q) := xe_P_getR (i := 7) (by decide +kernel) (by decide +kernel) (by decide) rfl
theorem xs_150_104 : xe_P d 150 104 ls st h Q = xe_P d 150 105 ls (.int 4 :: st) h Q := xe_P_ar (ins := .iconst 4) (len := 1) (by decide +kernel) rfl
theorem xs_150_105 : xe_P d 150 105 [l0, .int x, l2, l3] st h Q = xe_P d 150 106 [l0, .int x, l2, l3] (.int x :: st) h Q := xe_P_lo (ins := .iload_n 1) (len := 1) (by decide +kernel) rfl rfl
theorem xs_150_106 : xe_P d 150 106 ls (.int v :: .int x :: st) h Q = xe_P d 150 107 ls (.int (x * v) :: st) h Q := xe_P_ar (ins := .imul) (len := 1) (by decide +kernel) rfl
theorem xs_150_107 : xe_P d 150 107 ls (.int v :: .ref a :: st) h Q = ((xe_ia h a ∧ xe_ix h a v) ∧ xe_P d 150 108 ls (.int (xe_I h a v.toNatClampNeg) :: st) h Q) := xe_P_iald (by decide +kernel)
theorem xs_150_108 : xe_P d 150 108 ls [.int x] h Q = Q (some (.int x)) h := xe_P_ireturn (by decide +kernel) rfl
theorem xs_150 : xe_C (d + 1) 150 [.ref a, .int x0, .int x1] h Q = xe_P d 150 0 [.ref a, .int x0, .int x1, .retAddr 0] [] h Q := xe_C_at (Nat.le_of_ble_eq_true rfl) rfl
theorem xs_151_0 : xe_P d 151 0 ls st h Q = xe_P d 151 1 ls (.int 0 :: st) h Q := xe_P_ar (ins := .iconst 0) (len := 1) (by decide +kernel) rfl
theorem xs_151_1 : xe_P d 151 1 [l0, l1] (.int x :: st) h Q = xe_P d 151 2 [xe_cut l0, .int x] st h Q := xe_P_lo (ins := .istore_n 1) (len := 1) (by decide +kernel) rfl rfl
theorem xs_151_2 : xe_P d 151 2 [l0, .int x] st h Q = xe_P d 151 3 [l0, .int x] (.int x :: st) h Q := xe_P_lo (ins := .iload_n 1) (len := 1) (by decide +kernel) rfl rfl
theorem xs_151_3 : xe_P d 151 3 ls st h Q = xe_P d 151 5 ls (.int 6 :: st) h Q := xe_P_ar (ins := .bipush 6) (len := 2) (by decide +kernel) rfl
theorem xs_151_5 : xe_P d 151 5 ls (.int v :: .int x :: st) h Q = (if v ≤ x then xe_P d 151 37 ls st h Q else xe_P d 151 8 ls st h Q) := xe_P_if (ins := .if_icmp .ge 32) (len := 3) (off := 32) (by decide +kernel) (by decide) rfl rfl rfl
theorem xs_151_8 : xe_P d 151 8 [.ref a, l1] st h Q = xe_P d 151 9 [.ref a, l1] (.ref a :: st) h Q := xe_P_lo (ins := .aload_n 0) (len := 1) (by decide +kernel) rfl rfl
theorem xs_151_9 : xe_P d 151 9 ls (.ref a :: st) h Q = (xe_ob h a 7 ∧ xe_P d 151 12 ls (va_rf (xe_R h a 22) :: st) h Q) := xe_P_getR (i := 35) (by decide +kernel) (by decide +kernel) (by decide) rfl
theorem xs_151_12 : xe_P d 151 12 [l0, .int x] st h Q = xe_P d 151 13 [l0, .int x] (.int x :: st) h Q := xe_P_lo (ins := .iload_n 1) (len := 1) (by decide +kernel) rfl rfl
theorem xs_151_13 : xe_P d 151 13 ls (.int v :: .ref a :: st) h Q = xe_P d 151 14 ls (.int v :: .ref a :: .int v :: .ref a :: st) h Q := xe_P_ar (ins := .dup2) (len := 1) (by decide +kernel) rfl
theorem xs_151_14 : xe_P d 151 14 ls (.int v :: .ref a :: st) h Q = ((xe_ia h a ∧ xe_ix h a v) ∧ xe_P d 151 15 ls (.int (xe_I h a v.toNatClampNeg) :: st) h Q) := xe_P_iald (by decide +kernel)
theorem xs_151_15 : xe_P d 151 15 [.ref a, l1] st h Q = xe_P d 151 16 [.ref a, l1] (.ref a :: st) h Q := xe_P_lo (ins := .aload_n 0) (len := 1) (by decide +kernel) rfl rfl
theorem xs_151_16 : xe_P d 151 16 ls (.ref a :: st) h Q = (xe_ob h a 7 ∧ xe_P d 151 19 ls (va_rf (xe_R h a 22) :: st) h Q) := xe_P_getR (i := 35) (by decide +kernel) (by decide +kernel) (by decide) rfl
theorem xs_151_19 : xe_P d 151 19 [l0, .int x] st h Q = xe_P d 151 20 [l0, .int x] (.int x :: st) h Q := xe_P_lo (ins := .iload_n 1) (len := 1) (by decide +kernel) rfl rfl
theorem xs_151_20 : xe_P d 151 20 ls (.int v :: .ref a :: st) h Q = ((xe_ia h a ∧ xe_ix h a v) ∧ xe_P d 151 21 ls (.int (xe_I h a v.toNatClampNeg) :: st) h Q) := xe_P_iald (by decide +kernel)
theorem xs_151_21 : xe_P d 151 21 ls (.int x :: st) h Q = (if x ≤ 0 then xe_P d 151 28 ls st h Q else xe_P d 151 24 ls st h Q) := xe_P_if (ins := .ifCond .le 7) (len := 3) (off := 7) (by decide +kernel) (by decide) rfl rfl rfl
theorem xs_151_24 : xe_P d 151 24 ls st h Q = xe_P d 151 25 ls (.int 1 :: st) h Q := xe_P_ar (ins := .iconst 1) (len := 1) (by decide +kernel) rfl
theorem xs_151_25 : xe_P d 151 25 ls st h Q = xe_P d 151 29 ls st h Q := xe_P_go (len := 3) (off := 4) (by decide +kernel) (by decide)
theorem xs_151_28 : xe_P d 151 28 ls st h Q = xe_P d 151 29 ls (.int 0 :: st) h Q := xe_P_ar (ins := .iconst 0) (len := 1) (by decide +kernel) rfl
theorem xs_151_29 : xe_P d 151 29 ls (.int v :: .int x :: st) h Q = xe_P d 151 30 ls (.int (x - v) :: st) h Q := xe_P_ar (ins := .isub) (len := 1) (by decide +kernel) rfl
theorem xs_151_30 : xe_P d 151 30 ls (.int x :: .int v :: .ref a :: st) h Q = ((xe_ob h a 8 ∧ xe_ix h a v) ∧ xe_P d 151 31 ls st (xe_sI h a v.toNatClampNeg x) Q) := xe_P_iast (by decide +kernel)
theorem xs_151_31 : xe_P d 151 31 [l0, .int x] st h Q = xe_P d 151 34 [xe_cut l0, .int (x + 1)] st h Q := xe_P_lo (ins := .iinc 1 1) (len := 3) (by decide +kernel) rfl rfl
theorem xs_151_34 : xe_P d 151 34 ls st h Q = xe_P d 151 2 ls st h Q := xe_P_go (len := 3) (off := (-32)) (by decide +kernel) (by decide)
theorem xs_151_37 : xe_P d 151 37 ls [] h Q = Q none h := xe_P_vreturn (by decide +kernel) rfl
theorem xs_151 : xe_C (d + 1) 151 [.ref a] h Q = xe_P d 151 0 [.ref a, .retAddr 0] [] h Q := xe_C_at (Nat.le_of_ble_eq_true rfl) rfl
theorem xs_152_0 : xe_P d 152 0 [l0, .int x, l2] st h Q = xe_P d 152 1 [l0, .int x, l2] (.int x :: st) h Q := xe_P_lo (ins := .iload_n 1) (len := 1) (by decide +kernel) rfl rfl
theorem xs_152_1 : xe_P d 152 1 ls (.int x :: st) h Q = (if x = 0 then xe_P d 152 4 ls st h Q else xe_P d 152 6 ls st h Q) := xe_P_ifn (ins := .ifCond .ne 5) (len := 3) (off := 5) (by decide +kernel) (by decide) rfl rfl rfl
theorem xs_152_4 : xe_P d 152 4 [l0, l1, .int x] st h Q = xe_P d 152 5 [l0, l1, .int x] (.int x :: st) h Q := xe_P_lo (ins := .iload_n 2) (len := 1) (by decide +kernel) rfl rfl
theorem xs_152_5 : xe_P d 152 5 ls [.int x] h Q = Q (some (.int x)) h := xe_P_ireturn (by decide +kernel) rfl
theorem xs_152_6 : xe_P d 152 6 [l0, .int x, l2] st h Q = xe_P d 152 7 [l0, .int x, l2] (.int x :: st) h Q := xe_P_lo (ins := .iload_n 1) (len := 1) (by decide +kernel) rfl rfl
theorem xs_152_7 : xe_P d 152 7 [.ref a, l1, l2] st h Q = xe_P d 152 8 [.ref a, l1, l2] (.ref a :: st) h Q := xe_P_lo (ins := .aload_n 0) (len := 1) (by decide +kernel) rfl rfl
theorem xs_152_8 : xe_P d 152 8 ls (.ref a :: st) h Q = ((xe_w st ≤ 8 ∧ xe_ob h a 7) ∧ xe_C d 136 [.ref a] h (fun r h' => xe_P d 152 11 ls (r.toList ++ st) h' Q)) := xe_P_ivv (y := 152) (pc := 8) (z := 136) (i := 181) (vs := []) (by decide +kernel) (by decide +kernel) rfl (by decide +kernel)
theorem xs_152_11 : xe_P d 152 11 ls (.int v :: .int x :: st) h Q = (if v < x then xe_P d 152 36 ls st h Q else xe_P d 152 14 ls st h Q) := xe_P_if (ins := .if_icmp .gt 25) (len := 3) (off := 25) (by decide +kernel) (by decide) rfl rfl rfl
theorem xs_152_14 : xe_P d 152 14 [.ref a, l1, l2] st h Q = xe_P d 152 15 [.ref a, l1, l2] (.ref a :: st) h Q := xe_P_lo (ins := .aload_n 0) (len := 1) (by decide +kernel) rfl rfl
theorem xs_152_15 : xe_P d 152 15 [l0, .int x, l2] st h Q = xe_P d 152 16 [l0, .int x, l2] (.int x :: st) h Q := xe_P_lo (ins := .iload_n 1) (len := 1) (by decide +kernel) rfl rfl
theorem xs_152_16 : xe_P d 152 16 ls st h Q = xe_P d 152 17 ls (.int 1 :: st) h Q := xe_P_ar (ins := .iconst 1) (len := 1) (by decide +kernel) rfl
theorem xs_152_17 : xe_P d 152 17 ls (.int v :: .int x :: st) h Q = xe_P d 152 18 ls (.int (x - v) :: st) h Q := xe_P_ar (ins := .isub) (len := 1) (by decide +kernel) rfl
theorem xs_152_18 : xe_P d 152 18 [l0, l1, .int x] st h Q = xe_P d 152 19 [l0, l1, .int x] (.int x :: st) h Q := xe_P_lo (ins := .iload_n 2) (len := 1) (by decide +kernel) rfl rfl
theorem xs_152_19 : xe_P d 152 19 ls (v1 :: v0 :: .ref a :: st) h Q = ((xe_w st ≤ 8 ∧ xe_ob h a 7) ∧ xe_C d 148 [.ref a, v0, v1] h (fun r h' => xe_P d 152 22 ls (r.toList ++ st) h' Q)) := xe_P_ivv (y := 152) (pc := 19) (z := 148) (i := 199) (vs := [v1, v0]) (by decide +kernel) (by decide +kernel) rfl (by decide +kernel)
theorem xs_152_22 : xe_P d 152 22 ls (.int x :: st) h Q = (if x = 0 then xe_P d 152 36 ls st h Q else xe_P d 152 25 ls st h Q) := xe_P_if (ins := .ifCond .eq 14) (len := 3) (off := 14) (by decide +kernel) (by decide) rfl rfl rfl
theorem xs_152_25 : xe_P d 152 25 [.ref a, l1, l2] st h Q = xe_P d 152 26 [.ref a, l1, l2] (.ref a :: st) h Q := xe_P_lo (ins := .aload_n 0) (len := 1) (by decide +kernel) rfl rfl
theorem xs_152_26 : xe_P d 152 26 [l0, .int x, l2] st h Q = xe_P d 152 27 [l0, .int x, l2] (.int x :: st) h Q := xe_P_lo (ins := .iload_n 1) (len := 1) (by decide +kernel) rfl rfl
theorem xs_152_27 : xe_P d 152 27 ls st h Q = xe_P d 152 28 ls (.int 1 :: st) h Q := xe_P_ar (ins := .iconst 1) (len := 1) (by decide +kernel) rfl
theorem xs_152_28 : xe_P d 152 28 ls (.int v :: .int x :: st) h Q = xe_P d 152 29 ls (.int (x - v) :: st) h Q := xe_P_ar (ins := .isub) (len := 1) (by decide +kernel) rfl
theorem xs_152_29 : xe_P d 152 29 [l0, l1, .int x] st h Q = xe_P d 152 30 [l0, l1, .int x] (.int x :: st) h Q := xe_P_lo (ins := .iload_n 2) (len := 1) (by decide +kernel) rfl rfl
theorem xs_152_30 : xe_P d 152 30 ls (v1 :: v0 :: .ref a :: st) h Q = ((xe_w st ≤ 8 ∧ xe_ob h a 7) ∧ xe_C d 150 [.ref a, v0, v1] h (fun r h' => xe_P d 152 33 ls (r.toList ++ st) h' Q)) := xe_P_ivv (y := 152) (pc := 30) (z := 150) (i := 203) (vs := [v1, v0]) (by decide +kernel) (by decide +kernel) rfl (by decide +kernel)
theorem xs_152_33 : xe_P d 152 33 ls st h Q = xe_P d 152 38 ls st h Q := xe_P_go (len := 3) (off := 5) (by decide +kernel) (by decide)
theorem xs_152_36 : xe_P d 152 36 ls st h Q = xe_P d 152 38 ls (.int (-4) :: st) h Q := xe_P_ar (ins := .bipush (-4)) (len := 2) (by decide +kernel) rfl
theorem xs_152_38 : xe_P d 152 38 ls [.int x] h Q = Q (some (.int x)) h := xe_P_ireturn (by decide +kernel) rfl
theorem xs_152 : xe_C (d + 1) 152 [.ref a, .int x0, .int x1] h Q = xe_P d 152 0 [.ref a, .int x0, .int x1] [] h Q := xe_C_at (Nat.le_of_ble_eq_true rfl) rfl
end XSX7b
