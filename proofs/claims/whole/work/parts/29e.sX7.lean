section XSX7e
variable {d : Nat} {l0 l1 l2 l3 l4 l5 l6 l7 l8 l9 l10 l11 v0 v1 v2 v3 v4 v5 : Value} {x v n x0 x1 x2 x3 x4 x5 : Int32} {w u w0 w1 w2 w3 : Int64} {a b a0 a1 a2 : Nat} {ls st : List Value} {h : xe_H} {Q : Option Value → xe_H → Prop}
theorem xs_180_0 : xe_P d 180 0 [.long w, l1, l2, l3, l4, l5, l6, l7, l8, l9, l10] st h Q = xe_P d 180 1 [.long w, l1, l2, l3, l4, l5, l6, l7, l8, l9, l10] (.long w :: st) h Q := xe_P_lo (ins := .lload_n 0) (len := 1) (by decide +kernel) rfl rfl
theorem xs_180_1 : xe_P d 180 1 [l0, l1, l2, l3, l4, l5, l6, l7, l8, l9, l10] (.long w :: st) h Q = xe_P d 180 3 [l0, l1, l2, l3, xe_cut l4, .long w, .retAddr 0, l7, l8, l9, l10] st h Q := xe_P_lo (ins := .lstore 5) (len := 2) (by decide +kernel) rfl rfl
theorem xs_180_3 : xe_P d 180 3 [l0, l1, .long w, l3, l4, l5, l6, l7, l8, l9, l10] st h Q = xe_P d 180 4 [l0, l1, .long w, l3, l4, l5, l6, l7, l8, l9, l10] (.long w :: st) h Q := xe_P_lo (ins := .lload_n 2) (len := 1) (by decide +kernel) rfl rfl
theorem xs_180_4 : xe_P d 180 4 [l0, l1, l2, l3, l4, l5, l6, l7, l8, l9, l10] (.long w :: st) h Q = xe_P d 180 6 [l0, l1, l2, l3, l4, l5, xe_cut l6, .long w, .retAddr 0, l9, l10] st h Q := xe_P_lo (ins := .lstore 7) (len := 2) (by decide +kernel) rfl rfl
theorem xs_180_6 : xe_P d 180 6 [l0, l1, l2, l3, l4, l5, l6, .long w, l8, l9, l10] st h Q = xe_P d 180 8 [l0, l1, l2, l3, l4, l5, l6, .long w, l8, l9, l10] (.long w :: st) h Q := xe_P_lo (ins := .lload 7) (len := 2) (by decide +kernel) rfl rfl
theorem xs_180_8 : xe_P d 180 8 ls st h Q = xe_P d 180 9 ls (.long 0 :: st) h Q := xe_P_ar (ins := .lconst 0) (len := 1) (by decide +kernel) rfl
theorem xs_180_9 : xe_P d 180 9 ls (.long u :: .long w :: st) h Q = xe_P d 180 10 ls (.int (lg_cmp w u) :: st) h Q := xe_P_ar (ins := .lcmp) (len := 1) (by decide +kernel) rfl
theorem xs_180_10 : xe_P d 180 10 ls (.int x :: st) h Q = (if x = 0 then xe_P d 180 31 ls st h Q else xe_P d 180 13 ls st h Q) := xe_P_if (ins := .ifCond .eq 21) (len := 3) (off := 21) (by decide +kernel) (by decide) rfl rfl rfl
theorem xs_180_13 : xe_P d 180 13 [l0, l1, l2, l3, l4, .long w, l6, l7, l8, l9, l10] st h Q = xe_P d 180 15 [l0, l1, l2, l3, l4, .long w, l6, l7, l8, l9, l10] (.long w :: st) h Q := xe_P_lo (ins := .lload 5) (len := 2) (by decide +kernel) rfl rfl
theorem xs_180_15 : xe_P d 180 15 [l0, l1, l2, l3, l4, l5, l6, .long w, l8, l9, l10] st h Q = xe_P d 180 17 [l0, l1, l2, l3, l4, l5, l6, .long w, l8, l9, l10] (.long w :: st) h Q := xe_P_lo (ins := .lload 7) (len := 2) (by decide +kernel) rfl rfl
theorem xs_180_17 : xe_P d 180 17 ls (.long u :: .long w :: st) h Q = (¬ u = 0 ∧ xe_P d 180 18 ls (.long (w - w / u * u) :: st) h Q) := xe_P_lrem (by decide +kernel)
theorem xs_180_18 : xe_P d 180 18 [l0, l1, l2, l3, l4, l5, l6, l7, l8, l9, l10] (.long w :: st) h Q = xe_P d 180 20 [l0, l1, l2, l3, l4, l5, l6, l7, xe_cut l8, .long w, .retAddr 0] st h Q := xe_P_lo (ins := .lstore 9) (len := 2) (by decide +kernel) rfl rfl
theorem xs_180_20 : xe_P d 180 20 [l0, l1, l2, l3, l4, l5, l6, .long w, l8, l9, l10] st h Q = xe_P d 180 22 [l0, l1, l2, l3, l4, l5, l6, .long w, l8, l9, l10] (.long w :: st) h Q := xe_P_lo (ins := .lload 7) (len := 2) (by decide +kernel) rfl rfl
theorem xs_180_22 : xe_P d 180 22 [l0, l1, l2, l3, l4, l5, l6, l7, l8, l9, l10] (.long w :: st) h Q = xe_P d 180 24 [l0, l1, l2, l3, xe_cut l4, .long w, .retAddr 0, l7, l8, l9, l10] st h Q := xe_P_lo (ins := .lstore 5) (len := 2) (by decide +kernel) rfl rfl
theorem xs_180_24 : xe_P d 180 24 [l0, l1, l2, l3, l4, l5, l6, l7, l8, .long w, l10] st h Q = xe_P d 180 26 [l0, l1, l2, l3, l4, l5, l6, l7, l8, .long w, l10] (.long w :: st) h Q := xe_P_lo (ins := .lload 9) (len := 2) (by decide +kernel) rfl rfl
theorem xs_180_26 : xe_P d 180 26 [l0, l1, l2, l3, l4, l5, l6, l7, l8, l9, l10] (.long w :: st) h Q = xe_P d 180 28 [l0, l1, l2, l3, l4, l5, xe_cut l6, .long w, .retAddr 0, l9, l10] st h Q := xe_P_lo (ins := .lstore 7) (len := 2) (by decide +kernel) rfl rfl
theorem xs_180_28 : xe_P d 180 28 ls st h Q = xe_P d 180 6 ls st h Q := xe_P_go (len := 3) (off := (-22)) (by decide +kernel) (by decide)
theorem xs_180_31 : xe_P d 180 31 [l0, l1, l2, l3, .int x, l5, l6, l7, l8, l9, l10] st h Q = xe_P d 180 33 [l0, l1, l2, l3, .int x, l5, l6, l7, l8, l9, l10] (.int x :: st) h Q := xe_P_lo (ins := .iload 4) (len := 2) (by decide +kernel) rfl rfl
theorem xs_180_33 : xe_P d 180 33 ls (.int x :: st) h Q = (if x = 0 then xe_P d 180 36 ls st h Q else xe_P d 180 40 ls st h Q) := xe_P_ifn (ins := .ifCond .ne 7) (len := 3) (off := 7) (by decide +kernel) (by decide) rfl rfl rfl
theorem xs_180_36 : xe_P d 180 36 [.long w, l1, l2, l3, l4, l5, l6, l7, l8, l9, l10] st h Q = xe_P d 180 37 [.long w, l1, l2, l3, l4, l5, l6, l7, l8, l9, l10] (.long w :: st) h Q := xe_P_lo (ins := .lload_n 0) (len := 1) (by decide +kernel) rfl rfl
theorem xs_180_37 : xe_P d 180 37 ls st h Q = xe_P d 180 41 ls st h Q := xe_P_go (len := 3) (off := 4) (by decide +kernel) (by decide)
theorem xs_180_40 : xe_P d 180 40 [l0, l1, .long w, l3, l4, l5, l6, l7, l8, l9, l10] st h Q = xe_P d 180 41 [l0, l1, .long w, l3, l4, l5, l6, l7, l8, l9, l10] (.long w :: st) h Q := xe_P_lo (ins := .lload_n 2) (len := 1) (by decide +kernel) rfl rfl
theorem xs_180_41 : xe_P d 180 41 [l0, l1, l2, l3, l4, .long w, l6, l7, l8, l9, l10] st h Q = xe_P d 180 43 [l0, l1, l2, l3, l4, .long w, l6, l7, l8, l9, l10] (.long w :: st) h Q := xe_P_lo (ins := .lload 5) (len := 2) (by decide +kernel) rfl rfl
theorem xs_180_43 : xe_P d 180 43 ls (.long u :: .long w :: st) h Q = (¬ u = 0 ∧ xe_P d 180 44 ls (.long (w / u) :: st) h Q) := xe_P_ldiv (by decide +kernel)
theorem xs_180_44 : xe_P d 180 44 ls [.long w] h Q = Q (some (.long w)) h := xe_P_lreturn (by decide +kernel) rfl
theorem xs_180 : xe_C (d + 1) 180 [.long w0, .long w1, .int x2] h Q = xe_P d 180 0 [.long w0, .retAddr 0, .long w1, .retAddr 0, .int x2, .retAddr 0, .retAddr 0, .retAddr 0, .retAddr 0, .retAddr 0, .retAddr 0] [] h Q := xe_C_at (Nat.le_of_ble_eq_true rfl) rfl
theorem xs_181_0 : xe_P d 181 0 [l0, l1, .int x, l3, l4] st h Q = xe_P d 181 1 [l0, l1, .int x, l3, l4] (.int x :: st) h Q := xe_P_lo (ins := .iload_n 2) (len := 1) (by decide +kernel) rfl rfl
theorem xs_181_1 : xe_P d 181 1 [l0, l1, l2, l3, l4] (.int x :: st) h Q = xe_P d 181 2 [l0, l1, xe_cut l2, .int x, l4] st h Q := xe_P_lo (ins := .istore_n 3) (len := 1) (by decide +kernel) rfl rfl
theorem xs_181_2 : xe_P d 181 2 ls st h Q = xe_P d 181 3 ls (.int 0 :: st) h Q := xe_P_ar (ins := .iconst 0) (len := 1) (by decide +kernel) rfl
theorem xs_181_3 : xe_P d 181 3 [l0, l1, l2, l3, l4] (.int x :: st) h Q = xe_P d 181 5 [l0, l1, l2, xe_cut l3, .int x] st h Q := xe_P_lo (ins := .istore 4) (len := 2) (by decide +kernel) rfl rfl
theorem xs_181_5 : xe_P d 181 5 [l0, l1, l2, l3, .int x] st h Q = xe_P d 181 7 [l0, l1, l2, l3, .int x] (.int x :: st) h Q := xe_P_lo (ins := .iload 4) (len := 2) (by decide +kernel) rfl rfl
theorem xs_181_7 : xe_P d 181 7 [.ref a, l1, l2, l3, l4] st h Q = xe_P d 181 8 [.ref a, l1, l2, l3, l4] (.ref a :: st) h Q := xe_P_lo (ins := .aload_n 0) (len := 1) (by decide +kernel) rfl rfl
theorem xs_181_8 : xe_P d 181 8 ls (.ref a :: st) h Q = ((xe_w st ≤ 8 ∧ xe_ob h a 7) ∧ xe_C d 136 [.ref a] h (fun r h' => xe_P d 181 11 ls (r.toList ++ st) h' Q)) := xe_P_ivv (y := 181) (pc := 8) (z := 136) (i := 181) (vs := []) (by decide +kernel) (by decide +kernel) rfl (by decide +kernel)
theorem xs_181_11 : xe_P d 181 11 ls (.int v :: .int x :: st) h Q = (if v ≤ x then xe_P d 181 58 ls st h Q else xe_P d 181 14 ls st h Q) := xe_P_if (ins := .if_icmp .ge 47) (len := 3) (off := 47) (by decide +kernel) (by decide) rfl rfl rfl
theorem xs_181_14 : xe_P d 181 14 [.ref a, l1, l2, l3, l4] st h Q = xe_P d 181 15 [.ref a, l1, l2, l3, l4] (.ref a :: st) h Q := xe_P_lo (ins := .aload_n 0) (len := 1) (by decide +kernel) rfl rfl
theorem xs_181_15 : xe_P d 181 15 ls (.ref a :: st) h Q = (xe_ob h a 7 ∧ xe_P d 181 18 ls (va_rf (xe_R h a 0) :: st) h Q) := xe_P_getR (i := 7) (by decide +kernel) (by decide +kernel) (by decide) rfl
theorem xs_181_18 : xe_P d 181 18 ls st h Q = xe_P d 181 19 ls (.int 4 :: st) h Q := xe_P_ar (ins := .iconst 4) (len := 1) (by decide +kernel) rfl
theorem xs_181_19 : xe_P d 181 19 [l0, l1, l2, l3, .int x] st h Q = xe_P d 181 21 [l0, l1, l2, l3, .int x] (.int x :: st) h Q := xe_P_lo (ins := .iload 4) (len := 2) (by decide +kernel) rfl rfl
theorem xs_181_21 : xe_P d 181 21 ls (.int v :: .int x :: st) h Q = xe_P d 181 22 ls (.int (x * v) :: st) h Q := xe_P_ar (ins := .imul) (len := 1) (by decide +kernel) rfl
theorem xs_181_22 : xe_P d 181 22 ls (.int v :: .ref a :: st) h Q = ((xe_ia h a ∧ xe_ix h a v) ∧ xe_P d 181 23 ls (.int (xe_I h a v.toNatClampNeg) :: st) h Q) := xe_P_iald (by decide +kernel)
theorem xs_181_23 : xe_P d 181 23 [l0, .int x, l2, l3, l4] st h Q = xe_P d 181 24 [l0, .int x, l2, l3, l4] (.int x :: st) h Q := xe_P_lo (ins := .iload_n 1) (len := 1) (by decide +kernel) rfl rfl
theorem xs_181_24 : xe_P d 181 24 ls (.int v :: .int x :: st) h Q = (if x = v then xe_P d 181 42 ls st h Q else xe_P d 181 27 ls st h Q) := xe_P_if (ins := .if_icmp .eq 18) (len := 3) (off := 18) (by decide +kernel) (by decide) rfl rfl rfl
theorem xs_181_27 : xe_P d 181 27 [.ref a, l1, l2, l3, l4] st h Q = xe_P d 181 28 [.ref a, l1, l2, l3, l4] (.ref a :: st) h Q := xe_P_lo (ins := .aload_n 0) (len := 1) (by decide +kernel) rfl rfl
theorem xs_181_28 : xe_P d 181 28 ls (.ref a :: st) h Q = (xe_ob h a 7 ∧ xe_P d 181 31 ls (va_rf (xe_R h a 0) :: st) h Q) := xe_P_getR (i := 7) (by decide +kernel) (by decide +kernel) (by decide) rfl
theorem xs_181_31 : xe_P d 181 31 ls st h Q = xe_P d 181 32 ls (.int 4 :: st) h Q := xe_P_ar (ins := .iconst 4) (len := 1) (by decide +kernel) rfl
theorem xs_181_32 : xe_P d 181 32 [l0, l1, l2, l3, .int x] st h Q = xe_P d 181 34 [l0, l1, l2, l3, .int x] (.int x :: st) h Q := xe_P_lo (ins := .iload 4) (len := 2) (by decide +kernel) rfl rfl
theorem xs_181_34 : xe_P d 181 34 ls (.int v :: .int x :: st) h Q = xe_P d 181 35 ls (.int (x * v) :: st) h Q := xe_P_ar (ins := .imul) (len := 1) (by decide +kernel) rfl
theorem xs_181_35 : xe_P d 181 35 ls st h Q = xe_P d 181 36 ls (.int 1 :: st) h Q := xe_P_ar (ins := .iconst 1) (len := 1) (by decide +kernel) rfl
theorem xs_181_36 : xe_P d 181 36 ls (.int v :: .int x :: st) h Q = xe_P d 181 37 ls (.int (x + v) :: st) h Q := xe_P_ar (ins := .iadd) (len := 1) (by decide +kernel) rfl
theorem xs_181_37 : xe_P d 181 37 ls (.int v :: .ref a :: st) h Q = ((xe_ia h a ∧ xe_ix h a v) ∧ xe_P d 181 38 ls (.int (xe_I h a v.toNatClampNeg) :: st) h Q) := xe_P_iald (by decide +kernel)
theorem xs_181_38 : xe_P d 181 38 [l0, .int x, l2, l3, l4] st h Q = xe_P d 181 39 [l0, .int x, l2, l3, l4] (.int x :: st) h Q := xe_P_lo (ins := .iload_n 1) (len := 1) (by decide +kernel) rfl rfl
theorem xs_181_39 : xe_P d 181 39 ls (.int v :: .int x :: st) h Q = (if x = v then xe_P d 181 42 ls st h Q else xe_P d 181 52 ls st h Q) := xe_P_ifn (ins := .if_icmp .ne 13) (len := 3) (off := 13) (by decide +kernel) (by decide) rfl rfl rfl
theorem xs_181_42 : xe_P d 181 42 [l0, l1, l2, .int x, l4] st h Q = xe_P d 181 43 [l0, l1, l2, .int x, l4] (.int x :: st) h Q := xe_P_lo (ins := .iload_n 3) (len := 1) (by decide +kernel) rfl rfl
theorem xs_181_43 : xe_P d 181 43 ls (.int x :: st) h Q = (if x = 0 then xe_P d 181 46 ls st h Q else xe_P d 181 49 ls st h Q) := xe_P_ifn (ins := .ifCond .ne 6) (len := 3) (off := 6) (by decide +kernel) (by decide) rfl rfl rfl
theorem xs_181_46 : xe_P d 181 46 [l0, l1, l2, l3, .int x] st h Q = xe_P d 181 48 [l0, l1, l2, l3, .int x] (.int x :: st) h Q := xe_P_lo (ins := .iload 4) (len := 2) (by decide +kernel) rfl rfl
theorem xs_181_48 : xe_P d 181 48 ls [.int x] h Q = Q (some (.int x)) h := xe_P_ireturn (by decide +kernel) rfl
theorem xs_181_49 : xe_P d 181 49 [l0, l1, l2, .int x, l4] st h Q = xe_P d 181 52 [l0, l1, xe_cut l2, .int (x + (-1)), l4] st h Q := (xe_P_lo (ls' := [l0, l1, xe_cut l2, .int (x + Int32.ofInt (-1)), l4]) (st' := st) (ins := .iinc 3 (-1)) (len := 3) (by decide +kernel) rfl rfl).trans (by rw [show Int32.ofInt (-1) = ((-1) : Int32) by decide])
theorem xs_181_52 : xe_P d 181 52 [l0, l1, l2, l3, .int x] st h Q = xe_P d 181 55 [l0, l1, l2, xe_cut l3, .int (x + 1)] st h Q := xe_P_lo (ins := .iinc 4 1) (len := 3) (by decide +kernel) rfl rfl
theorem xs_181_55 : xe_P d 181 55 ls st h Q = xe_P d 181 5 ls st h Q := xe_P_go (len := 3) (off := (-50)) (by decide +kernel) (by decide)
theorem xs_181_58 : xe_P d 181 58 ls st h Q = xe_P d 181 60 ls (.int (-4) :: st) h Q := xe_P_ar (ins := .bipush (-4)) (len := 2) (by decide +kernel) rfl
theorem xs_181_60 : xe_P d 181 60 ls [.int x] h Q = Q (some (.int x)) h := xe_P_ireturn (by decide +kernel) rfl
theorem xs_181 : xe_C (d + 1) 181 [.ref a, .int x0, .int x1] h Q = xe_P d 181 0 [.ref a, .int x0, .int x1, .retAddr 0, .retAddr 0] [] h Q := xe_C_at (Nat.le_of_ble_eq_true rfl) rfl
theorem xs_182_0 : xe_P d 182 0 ls st h Q = xe_P d 182 1 ls (.int 0 :: st) h Q := xe_P_ar (ins := .iconst 0) (len := 1) (by decide +kernel) rfl
theorem xs_182_1 : xe_P d 182 1 [l0, l1, l2] (.int x :: st) h Q = xe_P d 182 2 [l0, xe_cut l1, .int x] st h Q := xe_P_lo (ins := .istore_n 2) (len := 1) (by decide +kernel) rfl rfl
theorem xs_182_2 : xe_P d 182 2 [.ref a, l1, l2] st h Q = xe_P d 182 3 [.ref a, l1, l2] (.ref a :: st) h Q := xe_P_lo (ins := .aload_n 0) (len := 1) (by decide +kernel) rfl rfl
theorem xs_182_3 : xe_P d 182 3 [l0, .int x, l2] st h Q = xe_P d 182 4 [l0, .int x, l2] (.int x :: st) h Q := xe_P_lo (ins := .iload_n 1) (len := 1) (by decide +kernel) rfl rfl
theorem xs_182_4 : xe_P d 182 4 [l0, l1, .int x] st h Q = xe_P d 182 5 [l0, l1, .int x] (.int x :: st) h Q := xe_P_lo (ins := .iload_n 2) (len := 1) (by decide +kernel) rfl rfl
theorem xs_182_5 : xe_P d 182 5 ls (v1 :: v0 :: .ref a :: st) h Q = ((xe_w st ≤ 8 ∧ xe_ob h a 7) ∧ xe_C d 181 [.ref a, v0, v1] h (fun r h' => xe_P d 182 8 ls (r.toList ++ st) h' Q)) := xe_P_ivv (y := 182) (pc := 5) (z := 181) (i := 282) (vs := [v1, v0]) (by decide +kernel) (by decide +kernel) rfl (by decide +kernel)
theorem xs_182_8 : xe_P d 182 8 ls st h Q = xe_P d 182 10 ls (.int (-4) :: st) h Q := xe_P_ar (ins := .bipush (-4)) (len := 2) (by decide +kernel) rfl
theorem xs_182_10 : xe_P d 182 10 ls (.int v :: .int x :: st) h Q = (if x = v then xe_P d 182 19 ls st h Q else xe_P d 182 13 ls st h Q) := xe_P_if (ins := .if_icmp .eq 9) (len := 3) (off := 9) (by decide +kernel) (by decide) rfl rfl rfl
theorem xs_182_13 : xe_P d 182 13 [l0, l1, .int x] st h Q = xe_P d 182 16 [l0, xe_cut l1, .int (x + 1)] st h Q := xe_P_lo (ins := .iinc 2 1) (len := 3) (by decide +kernel) rfl rfl
theorem xs_182_16 : xe_P d 182 16 ls st h Q = xe_P d 182 2 ls st h Q := xe_P_go (len := 3) (off := (-14)) (by decide +kernel) (by decide)
theorem xs_182_19 : xe_P d 182 19 [l0, l1, .int x] st h Q = xe_P d 182 20 [l0, l1, .int x] (.int x :: st) h Q := xe_P_lo (ins := .iload_n 2) (len := 1) (by decide +kernel) rfl rfl
theorem xs_182_20 : xe_P d 182 20 ls [.int x] h Q = Q (some (.int x)) h := xe_P_ireturn (by decide +kernel) rfl
theorem xs_182 : xe_C (d + 1) 182 [.ref a, .int x0] h Q = xe_P d 182 0 [.ref a, .int x0, .retAddr 0] [] h Q := xe_C_at (Nat.le_of_ble_eq_true rfl) rfl
theorem xs_183_0 : xe_P d 183 0 ls st h Q = xe_P d 183 1 ls (.int 1 :: st) h Q := xe_P_ar (ins := .iconst 1) (len := 1) (by decide +kernel) rfl
theorem xs_183_1 : xe_P d 183 1 [l0, l1, l2, l3, l4, l5, l6, l7, l8, l9, l10, l11] (.int x :: st) h Q = xe_P d 183 3 [l0, l1, l2, xe_cut l3, .int x, l5, l6, l7, l8, l9, l10, l11] st h Q := xe_P_lo (ins := .istore 4) (len := 2) (by decide +kernel) rfl rfl
theorem xs_183_3 : xe_P d 183 3 ls st h Q = xe_P d 183 4 ls (.int 1 :: st) h Q := xe_P_ar (ins := .iconst 1) (len := 1) (by decide +kernel) rfl
theorem xs_183_4 : xe_P d 183 4 [l0, l1, l2, l3, l4, l5, l6, l7, l8, l9, l10, l11] (.int x :: st) h Q = xe_P d 183 6 [l0, l1, l2, l3, xe_cut l4, .int x, l6, l7, l8, l9, l10, l11] st h Q := xe_P_lo (ins := .istore 5) (len := 2) (by decide +kernel) rfl rfl
theorem xs_183_6 : xe_P d 183 6 [l0, l1, l2, l3, l4, .int x, l6, l7, l8, l9, l10, l11] st h Q = xe_P d 183 8 [l0, l1, l2, l3, l4, .int x, l6, l7, l8, l9, l10, l11] (.int x :: st) h Q := xe_P_lo (ins := .iload 5) (len := 2) (by decide +kernel) rfl rfl
theorem xs_183_8 : xe_P d 183 8 [l0, l1, l2, .int x, l4, l5, l6, l7, l8, l9, l10, l11] st h Q = xe_P d 183 9 [l0, l1, l2, .int x, l4, l5, l6, l7, l8, l9, l10, l11] (.int x :: st) h Q := xe_P_lo (ins := .iload_n 3) (len := 1) (by decide +kernel) rfl rfl
theorem xs_183_9 : xe_P d 183 9 ls (.int v :: .int x :: st) h Q = (if v ≤ x then xe_P d 183 25 ls st h Q else xe_P d 183 12 ls st h Q) := xe_P_if (ins := .if_icmp .ge 16) (len := 3) (off := 16) (by decide +kernel) (by decide) rfl rfl rfl
theorem xs_183_12 : xe_P d 183 12 [l0, l1, l2, l3, .int x, l5, l6, l7, l8, l9, l10, l11] st h Q = xe_P d 183 14 [l0, l1, l2, l3, .int x, l5, l6, l7, l8, l9, l10, l11] (.int x :: st) h Q := xe_P_lo (ins := .iload 4) (len := 2) (by decide +kernel) rfl rfl
theorem xs_183_14 : xe_P d 183 14 ls st h Q = xe_P d 183 16 ls (.int 6 :: st) h Q := xe_P_ar (ins := .bipush 6) (len := 2) (by decide +kernel) rfl
theorem xs_183_16 : xe_P d 183 16 ls (.int v :: .int x :: st) h Q = xe_P d 183 17 ls (.int (x * v) :: st) h Q := xe_P_ar (ins := .imul) (len := 1) (by decide +kernel) rfl
theorem xs_183_17 : xe_P d 183 17 [l0, l1, l2, l3, l4, l5, l6, l7, l8, l9, l10, l11] (.int x :: st) h Q = xe_P d 183 19 [l0, l1, l2, xe_cut l3, .int x, l5, l6, l7, l8, l9, l10, l11] st h Q := xe_P_lo (ins := .istore 4) (len := 2) (by decide +kernel) rfl rfl
theorem xs_183_19 : xe_P d 183 19 [l0, l1, l2, l3, l4, .int x, l6, l7, l8, l9, l10, l11] st h Q = xe_P d 183 22 [l0, l1, l2, l3, xe_cut l4, .int (x + 1), l6, l7, l8, l9, l10, l11] st h Q := xe_P_lo (ins := .iinc 5 1) (len := 3) (by decide +kernel) rfl rfl
theorem xs_183_22 : xe_P d 183 22 ls st h Q = xe_P d 183 6 ls st h Q := xe_P_go (len := 3) (off := (-16)) (by decide +kernel) (by decide)
theorem xs_183_25 : xe_P d 183 25 [.ref a, l1, l2, l3, l4, l5, l6, l7, l8, l9, l10, l11] st h Q = xe_P d 183 26 [.ref a, l1, l2, l3, l4, l5, l6, l7, l8, l9, l10, l11] (.ref a :: st) h Q := xe_P_lo (ins := .aload_n 0) (len := 1) (by decide +kernel) rfl rfl
theorem xs_183_26 : xe_P d 183 26 [l0, .int x, l2, l3, l4, l5, l6, l7, l8, l9, l10, l11] st h Q = xe_P d 183 27 [l0, .int x, l2, l3, l4, l5, l6, l7, l8, l9, l10, l11] (.int x :: st) h Q := xe_P_lo (ins := .iload_n 1) (len := 1) (by decide +kernel) rfl rfl
theorem xs_183_27 : xe_P d 183 27 ls (v0 :: .ref a :: st) h Q = ((xe_w st ≤ 8 ∧ xe_ob h a 7) ∧ xe_C d 140 [.ref a, v0] h (fun r h' => xe_P d 183 30 ls (r.toList ++ st) h' Q)) := xe_P_ivv (y := 183) (pc := 27) (z := 140) (i := 212) (vs := [v0]) (by decide +kernel) (by decide +kernel) rfl (by decide +kernel)
theorem xs_183_30 : xe_P d 183 30 [l0, l1, l2, l3, l4, l5, l6, l7, l8, l9, l10, l11] (.int x :: st) h Q = xe_P d 183 32 [l0, l1, l2, l3, xe_cut l4, .int x, l6, l7, l8, l9, l10, l11] st h Q := xe_P_lo (ins := .istore 5) (len := 2) (by decide +kernel) rfl rfl
theorem xs_183_32 : xe_P d 183 32 [l0, l1, l2, l3, l4, .int x, l6, l7, l8, l9, l10, l11] st h Q = xe_P d 183 34 [l0, l1, l2, l3, l4, .int x, l6, l7, l8, l9, l10, l11] (.int x :: st) h Q := xe_P_lo (ins := .iload 5) (len := 2) (by decide +kernel) rfl rfl
theorem xs_183_34 : xe_P d 183 34 [.ref a, l1, l2, l3, l4, l5, l6, l7, l8, l9, l10, l11] st h Q = xe_P d 183 35 [.ref a, l1, l2, l3, l4, l5, l6, l7, l8, l9, l10, l11] (.ref a :: st) h Q := xe_P_lo (ins := .aload_n 0) (len := 1) (by decide +kernel) rfl rfl
theorem xs_183_35 : xe_P d 183 35 [l0, .int x, l2, l3, l4, l5, l6, l7, l8, l9, l10, l11] st h Q = xe_P d 183 36 [l0, .int x, l2, l3, l4, l5, l6, l7, l8, l9, l10, l11] (.int x :: st) h Q := xe_P_lo (ins := .iload_n 1) (len := 1) (by decide +kernel) rfl rfl
theorem xs_183_36 : xe_P d 183 36 ls (v0 :: .ref a :: st) h Q = ((xe_w st ≤ 8 ∧ xe_ob h a 7) ∧ xe_C d 141 [.ref a, v0] h (fun r h' => xe_P d 183 39 ls (r.toList ++ st) h' Q)) := xe_P_ivv (y := 183) (pc := 36) (z := 141) (i := 215) (vs := [v0]) (by decide +kernel) (by decide +kernel) rfl (by decide +kernel)
theorem xs_183_39 : xe_P d 183 39 ls (.int v :: .int x :: st) h Q = (if x = v then xe_P d 183 42 ls st h Q else xe_P d 183 46 ls st h Q) := xe_P_ifn (ins := .if_icmp .ne 7) (len := 3) (off := 7) (by decide +kernel) (by decide) rfl rfl rfl
theorem xs_183_42 : xe_P d 183 42 ls st h Q = xe_P d 183 43 ls (.int 1 :: st) h Q := xe_P_ar (ins := .iconst 1) (len := 1) (by decide +kernel) rfl
theorem xs_183_43 : xe_P d 183 43 ls st h Q = xe_P d 183 47 ls st h Q := xe_P_go (len := 3) (off := 4) (by decide +kernel) (by decide)
theorem xs_183_46 : xe_P d 183 46 ls st h Q = xe_P d 183 47 ls (.int 0 :: st) h Q := xe_P_ar (ins := .iconst 0) (len := 1) (by decide +kernel) rfl
theorem xs_183_47 : xe_P d 183 47 [l0, l1, l2, l3, l4, l5, l6, l7, l8, l9, l10, l11] (.int x :: st) h Q = xe_P d 183 49 [l0, l1, l2, l3, l4, xe_cut l5, .int x, l7, l8, l9, l10, l11] st h Q := xe_P_lo (ins := .istore 6) (len := 2) (by decide +kernel) rfl rfl
theorem xs_183_49 : xe_P d 183 49 ls st h Q = xe_P d 183 50 ls (.long 1 :: st) h Q := xe_P_ar (ins := .lconst 1) (len := 1) (by decide +kernel) rfl
theorem xs_183_50 : xe_P d 183 50 [l0, l1, l2, l3, l4, l5, l6, l7, l8, l9, l10, l11] (.long w :: st) h Q = xe_P d 183 52 [l0, l1, l2, l3, l4, l5, xe_cut l6, .long w, .retAddr 0, l9, l10, l11] st h Q := xe_P_lo (ins := .lstore 7) (len := 2) (by decide +kernel) rfl rfl
theorem xs_183_52 : xe_P d 183 52 [.ref a, l1, l2, l3, l4, l5, l6, l7, l8, l9, l10, l11] st h Q = xe_P d 183 53 [.ref a, l1, l2, l3, l4, l5, l6, l7, l8, l9, l10, l11] (.ref a :: st) h Q := xe_P_lo (ins := .aload_n 0) (len := 1) (by decide +kernel) rfl rfl
theorem xs_183_53 : xe_P d 183 53 ls (.ref a :: st) h Q = ((xe_w st ≤ 8 ∧ xe_ob h a 7) ∧ xe_C d 145 [.ref a] h (fun r h' => xe_P d 183 56 ls (r.toList ++ st) h' Q)) := xe_P_ivv (y := 183) (pc := 53) (z := 145) (i := 209) (vs := []) (by decide +kernel) (by decide +kernel) rfl (by decide +kernel)
theorem xs_183_56 : xe_P d 183 56 ls st h Q = xe_P d 183 57 ls (.int 0 :: st) h Q := xe_P_ar (ins := .iconst 0) (len := 1) (by decide +kernel) rfl
theorem xs_183_57 : xe_P d 183 57 [l0, l1, l2, l3, l4, l5, l6, l7, l8, l9, l10, l11] (.int x :: st) h Q = xe_P d 183 59 [l0, l1, l2, l3, l4, l5, l6, l7, xe_cut l8, .int x, l10, l11] st h Q := xe_P_lo (ins := .istore 9) (len := 2) (by decide +kernel) rfl rfl
theorem xs_183_59 : xe_P d 183 59 [l0, l1, l2, l3, l4, l5, l6, l7, l8, .int x, l10, l11] st h Q = xe_P d 183 61 [l0, l1, l2, l3, l4, l5, l6, l7, l8, .int x, l10, l11] (.int x :: st) h Q := xe_P_lo (ins := .iload 9) (len := 2) (by decide +kernel) rfl rfl
theorem xs_183_61 : xe_P d 183 61 [l0, l1, l2, .int x, l4, l5, l6, l7, l8, l9, l10, l11] st h Q = xe_P d 183 62 [l0, l1, l2, .int x, l4, l5, l6, l7, l8, l9, l10, l11] (.int x :: st) h Q := xe_P_lo (ins := .iload_n 3) (len := 1) (by decide +kernel) rfl rfl
theorem xs_183_62 : xe_P d 183 62 ls (.int v :: .int x :: st) h Q = (if v ≤ x then xe_P d 183 208 ls st h Q else xe_P d 183 65 ls st h Q) := xe_P_if (ins := .if_icmp .ge 146) (len := 3) (off := 146) (by decide +kernel) (by decide) rfl rfl rfl
theorem xs_183_65 : xe_P d 183 65 [l0, l1, .int x, l3, l4, l5, l6, l7, l8, l9, l10, l11] st h Q = xe_P d 183 66 [l0, l1, .int x, l3, l4, l5, l6, l7, l8, l9, l10, l11] (.int x :: st) h Q := xe_P_lo (ins := .iload_n 2) (len := 1) (by decide +kernel) rfl rfl
theorem xs_183_66 : xe_P d 183 66 [l0, l1, l2, l3, .int x, l5, l6, l7, l8, l9, l10, l11] st h Q = xe_P d 183 68 [l0, l1, l2, l3, .int x, l5, l6, l7, l8, l9, l10, l11] (.int x :: st) h Q := xe_P_lo (ins := .iload 4) (len := 2) (by decide +kernel) rfl rfl
theorem xs_183_68 : xe_P d 183 68 ls (.int v :: .int x :: st) h Q = (¬ v = 0 ∧ xe_P d 183 69 ls (.int (x / v) :: st) h Q) := xe_P_div (by decide +kernel)
theorem xs_183_69 : xe_P d 183 69 ls st h Q = xe_P d 183 71 ls (.int 6 :: st) h Q := xe_P_ar (ins := .bipush 6) (len := 2) (by decide +kernel) rfl
theorem xs_183_71 : xe_P d 183 71 ls (.int v :: .int x :: st) h Q = (¬ v = 0 ∧ xe_P d 183 72 ls (.int (x - x / v * v) :: st) h Q) := xe_P_rem (by decide +kernel)
theorem xs_183_72 : xe_P d 183 72 [l0, l1, l2, l3, l4, l5, l6, l7, l8, l9, l10, l11] (.int x :: st) h Q = xe_P d 183 74 [l0, l1, l2, l3, l4, l5, l6, l7, l8, xe_cut l9, .int x, l11] st h Q := xe_P_lo (ins := .istore 10) (len := 2) (by decide +kernel) rfl rfl
theorem xs_183_74 : xe_P d 183 74 [l0, l1, l2, l3, l4, l5, .int x, l7, l8, l9, l10, l11] st h Q = xe_P d 183 76 [l0, l1, l2, l3, l4, l5, .int x, l7, l8, l9, l10, l11] (.int x :: st) h Q := xe_P_lo (ins := .iload 6) (len := 2) (by decide +kernel) rfl rfl
theorem xs_183_76 : xe_P d 183 76 ls (.int x :: st) h Q = (if x = 0 then xe_P d 183 83 ls st h Q else xe_P d 183 79 ls st h Q) := xe_P_if (ins := .ifCond .eq 7) (len := 3) (off := 7) (by decide +kernel) (by decide) rfl rfl rfl
theorem xs_183_79 : xe_P d 183 79 ls st h Q = xe_P d 183 80 ls (.int 0 :: st) h Q := xe_P_ar (ins := .iconst 0) (len := 1) (by decide +kernel) rfl
theorem xs_183_80 : xe_P d 183 80 ls st h Q = xe_P d 183 89 ls st h Q := xe_P_go (len := 3) (off := 9) (by decide +kernel) (by decide)
theorem xs_183_83 : xe_P d 183 83 [.ref a, l1, l2, l3, l4, l5, l6, l7, l8, l9, l10, l11] st h Q = xe_P d 183 84 [.ref a, l1, l2, l3, l4, l5, l6, l7, l8, l9, l10, l11] (.ref a :: st) h Q := xe_P_lo (ins := .aload_n 0) (len := 1) (by decide +kernel) rfl rfl
theorem xs_183_84 : xe_P d 183 84 [l0, l1, l2, l3, l4, .int x, l6, l7, l8, l9, l10, l11] st h Q = xe_P d 183 86 [l0, l1, l2, l3, l4, .int x, l6, l7, l8, l9, l10, l11] (.int x :: st) h Q := xe_P_lo (ins := .iload 5) (len := 2) (by decide +kernel) rfl rfl
theorem xs_183_86 : xe_P d 183 86 ls (v0 :: .ref a :: st) h Q = ((xe_w st ≤ 8 ∧ xe_ob h a 7) ∧ xe_C d 182 [.ref a, v0] h (fun r h' => xe_P d 183 89 ls (r.toList ++ st) h' Q)) := xe_P_ivv (y := 183) (pc := 86) (z := 182) (i := 285) (vs := [v0]) (by decide +kernel) (by decide +kernel) rfl (by decide +kernel)
theorem xs_183_89 : xe_P d 183 89 [l0, l1, l2, l3, l4, l5, l6, l7, l8, l9, l10, l11] (.int x :: st) h Q = xe_P d 183 91 [l0, l1, l2, l3, l4, l5, l6, l7, l8, l9, xe_cut l10, .int x] st h Q := xe_P_lo (ins := .istore 11) (len := 2) (by decide +kernel) rfl rfl
theorem xs_183_91 : xe_P d 183 91 [l0, l1, l2, l3, l4, l5, l6, l7, l8, l9, .int x, l11] st h Q = xe_P d 183 93 [l0, l1, l2, l3, l4, l5, l6, l7, l8, l9, .int x, l11] (.int x :: st) h Q := xe_P_lo (ins := .iload 10) (len := 2) (by decide +kernel) rfl rfl
theorem xs_183_93 : xe_P d 183 93 [l0, l1, l2, l3, l4, l5, l6, l7, l8, l9, l10, .int x] st h Q = xe_P d 183 95 [l0, l1, l2, l3, l4, l5, l6, l7, l8, l9, l10, .int x] (.int x :: st) h Q := xe_P_lo (ins := .iload 11) (len := 2) (by decide +kernel) rfl rfl
theorem xs_183_95 : xe_P d 183 95 ls (.int x :: st) h Q = (if x = 0 then xe_P d 183 98 ls st h Q else xe_P d 183 102 ls st h Q) := xe_P_ifn (ins := .ifCond .ne 7) (len := 3) (off := 7) (by decide +kernel) (by decide) rfl rfl rfl
theorem xs_183_98 : xe_P d 183 98 ls st h Q = xe_P d 183 99 ls (.int 1 :: st) h Q := xe_P_ar (ins := .iconst 1) (len := 1) (by decide +kernel) rfl
theorem xs_183_99 : xe_P d 183 99 ls st h Q = xe_P d 183 104 ls st h Q := xe_P_go (len := 3) (off := 5) (by decide +kernel) (by decide)
theorem xs_183_102 : xe_P d 183 102 [l0, l1, l2, l3, l4, l5, l6, l7, l8, l9, l10, .int x] st h Q = xe_P d 183 104 [l0, l1, l2, l3, l4, l5, l6, l7, l8, l9, l10, .int x] (.int x :: st) h Q := xe_P_lo (ins := .iload 11) (len := 2) (by decide +kernel) rfl rfl
theorem xs_183_104 : xe_P d 183 104 ls (.int v :: .int x :: st) h Q = (if x < v then xe_P d 183 109 ls st h Q else xe_P d 183 107 ls st h Q) := xe_P_if (ins := .if_icmp .lt 5) (len := 3) (off := 5) (by decide +kernel) (by decide) rfl rfl rfl
theorem xs_183_107 : xe_P d 183 107 ls st h Q = xe_P d 183 108 ls (.long 0 :: st) h Q := xe_P_ar (ins := .lconst 0) (len := 1) (by decide +kernel) rfl
theorem xs_183_108 : xe_P d 183 108 ls [.long w] h Q = Q (some (.long w)) h := xe_P_lreturn (by decide +kernel) rfl
theorem xs_183_109 : xe_P d 183 109 [l0, l1, l2, l3, l4, l5, l6, .long w, l8, l9, l10, l11] st h Q = xe_P d 183 111 [l0, l1, l2, l3, l4, l5, l6, .long w, l8, l9, l10, l11] (.long w :: st) h Q := xe_P_lo (ins := .lload 7) (len := 2) (by decide +kernel) rfl rfl
theorem xs_183_111 : xe_P d 183 111 [l0, l1, l2, l3, l4, l5, l6, l7, l8, l9, l10, .int x] st h Q = xe_P d 183 113 [l0, l1, l2, l3, l4, l5, l6, l7, l8, l9, l10, .int x] (.int x :: st) h Q := xe_P_lo (ins := .iload 11) (len := 2) (by decide +kernel) rfl rfl
theorem xs_183_113 : xe_P d 183 113 ls (.int x :: st) h Q = (if x = 0 then xe_P d 183 116 ls st h Q else xe_P d 183 122 ls st h Q) := xe_P_ifn (ins := .ifCond .ne 9) (len := 3) (off := 9) (by decide +kernel) (by decide) rfl rfl rfl
theorem xs_183_116 : xe_P d 183 116 ls st h Q = xe_P d 183 119 ls (.long 60 :: st) h Q := xe_P_ldc2 (j := 288) (by decide +kernel) (by decide +kernel)
theorem xs_183_119 : xe_P d 183 119 ls st h Q = xe_P d 183 128 ls st h Q := xe_P_go (len := 3) (off := 9) (by decide +kernel) (by decide)
theorem xs_183_122 : xe_P d 183 122 ls st h Q = xe_P d 183 124 ls (.int 60 :: st) h Q := xe_P_ar (ins := .bipush 60) (len := 2) (by decide +kernel) rfl
theorem xs_183_124 : xe_P d 183 124 [l0, l1, l2, l3, l4, l5, l6, l7, l8, l9, l10, .int x] st h Q = xe_P d 183 126 [l0, l1, l2, l3, l4, l5, l6, l7, l8, l9, l10, .int x] (.int x :: st) h Q := xe_P_lo (ins := .iload 11) (len := 2) (by decide +kernel) rfl rfl
theorem xs_183_126 : xe_P d 183 126 ls (.int v :: .int x :: st) h Q = (¬ v = 0 ∧ xe_P d 183 127 ls (.int (x / v) :: st) h Q) := xe_P_div (by decide +kernel)
theorem xs_183_127 : xe_P d 183 127 ls (.int x :: st) h Q = xe_P d 183 128 ls (.long x.toInt64 :: st) h Q := xe_P_ar (ins := .i2l) (len := 1) (by decide +kernel) rfl
theorem xs_183_128 : xe_P d 183 128 ls (.long u :: .long w :: st) h Q = xe_P d 183 129 ls (.long (w * u) :: st) h Q := xe_P_ar (ins := .lmul) (len := 1) (by decide +kernel) rfl
theorem xs_183_129 : xe_P d 183 129 [l0, l1, l2, l3, l4, l5, l6, l7, l8, l9, l10, l11] (.long w :: st) h Q = xe_P d 183 131 [l0, l1, l2, l3, l4, l5, xe_cut l6, .long w, .retAddr 0, l9, l10, l11] st h Q := xe_P_lo (ins := .lstore 7) (len := 2) (by decide +kernel) rfl rfl
theorem xs_183_131 : xe_P d 183 131 [l0, l1, l2, l3, l4, l5, l6, l7, l8, l9, l10, .int x] st h Q = xe_P d 183 133 [l0, l1, l2, l3, l4, l5, l6, l7, l8, l9, l10, .int x] (.int x :: st) h Q := xe_P_lo (ins := .iload 11) (len := 2) (by decide +kernel) rfl rfl
theorem xs_183_133 : xe_P d 183 133 ls (.int x :: st) h Q = (if x ≤ 0 then xe_P d 183 169 ls st h Q else xe_P d 183 136 ls st h Q) := xe_P_if (ins := .ifCond .le 36) (len := 3) (off := 36) (by decide +kernel) (by decide) rfl rfl rfl
theorem xs_183_136 : xe_P d 183 136 [.ref a, l1, l2, l3, l4, l5, l6, l7, l8, l9, l10, l11] st h Q = xe_P d 183 137 [.ref a, l1, l2, l3, l4, l5, l6, l7, l8, l9, l10, l11] (.ref a :: st) h Q := xe_P_lo (ins := .aload_n 0) (len := 1) (by decide +kernel) rfl rfl
theorem xs_183_137 : xe_P d 183 137 [.ref a, l1, l2, l3, l4, l5, l6, l7, l8, l9, l10, l11] st h Q = xe_P d 183 138 [.ref a, l1, l2, l3, l4, l5, l6, l7, l8, l9, l10, l11] (.ref a :: st) h Q := xe_P_lo (ins := .aload_n 0) (len := 1) (by decide +kernel) rfl rfl
theorem xs_183_138 : xe_P d 183 138 [l0, l1, l2, l3, l4, .int x, l6, l7, l8, l9, l10, l11] st h Q = xe_P d 183 140 [l0, l1, l2, l3, l4, .int x, l6, l7, l8, l9, l10, l11] (.int x :: st) h Q := xe_P_lo (ins := .iload 5) (len := 2) (by decide +kernel) rfl rfl
theorem xs_183_140 : xe_P d 183 140 [l0, l1, l2, l3, l4, l5, l6, l7, l8, l9, .int x, l11] st h Q = xe_P d 183 142 [l0, l1, l2, l3, l4, l5, l6, l7, l8, l9, .int x, l11] (.int x :: st) h Q := xe_P_lo (ins := .iload 10) (len := 2) (by decide +kernel) rfl rfl
theorem xs_183_142 : xe_P d 183 142 ls (v1 :: v0 :: .ref a :: st) h Q = ((xe_w st ≤ 8 ∧ xe_ob h a 7) ∧ xe_C d 181 [.ref a, v0, v1] h (fun r h' => xe_P d 183 145 ls (r.toList ++ st) h' Q)) := xe_P_ivv (y := 183) (pc := 142) (z := 181) (i := 282) (vs := [v1, v0]) (by decide +kernel) (by decide +kernel) rfl (by decide +kernel)
theorem xs_183_145 : xe_P d 183 145 [l0, l1, l2, l3, l4, .int x, l6, l7, l8, l9, l10, l11] st h Q = xe_P d 183 147 [l0, l1, l2, l3, l4, .int x, l6, l7, l8, l9, l10, l11] (.int x :: st) h Q := xe_P_lo (ins := .iload 5) (len := 2) (by decide +kernel) rfl rfl
theorem xs_183_147 : xe_P d 183 147 ls (v1 :: v0 :: .ref a :: st) h Q = ((xe_w st ≤ 8 ∧ xe_ob h a 7) ∧ xe_C d 148 [.ref a, v0, v1] h (fun r h' => xe_P d 183 150 ls (r.toList ++ st) h' Q)) := xe_P_ivv (y := 183) (pc := 147) (z := 148) (i := 199) (vs := [v1, v0]) (by decide +kernel) (by decide +kernel) rfl (by decide +kernel)
theorem xs_183_150 : xe_P d 183 150 ls (.int x :: st) h Q = (if x = 0 then xe_P d 183 169 ls st h Q else xe_P d 183 153 ls st h Q) := xe_P_if (ins := .ifCond .eq 19) (len := 3) (off := 19) (by decide +kernel) (by decide) rfl rfl rfl
theorem xs_183_153 : xe_P d 183 153 [.ref a, l1, l2, l3, l4, l5, l6, l7, l8, l9, l10, l11] st h Q = xe_P d 183 154 [.ref a, l1, l2, l3, l4, l5, l6, l7, l8, l9, l10, l11] (.ref a :: st) h Q := xe_P_lo (ins := .aload_n 0) (len := 1) (by decide +kernel) rfl rfl
theorem xs_183_154 : xe_P d 183 154 [.ref a, l1, l2, l3, l4, l5, l6, l7, l8, l9, l10, l11] st h Q = xe_P d 183 155 [.ref a, l1, l2, l3, l4, l5, l6, l7, l8, l9, l10, l11] (.ref a :: st) h Q := xe_P_lo (ins := .aload_n 0) (len := 1) (by decide +kernel) rfl rfl
theorem xs_183_155 : xe_P d 183 155 [l0, l1, l2, l3, l4, .int x, l6, l7, l8, l9, l10, l11] st h Q = xe_P d 183 157 [l0, l1, l2, l3, l4, .int x, l6, l7, l8, l9, l10, l11] (.int x :: st) h Q := xe_P_lo (ins := .iload 5) (len := 2) (by decide +kernel) rfl rfl
theorem xs_183_157 : xe_P d 183 157 [l0, l1, l2, l3, l4, l5, l6, l7, l8, l9, .int x, l11] st h Q = xe_P d 183 159 [l0, l1, l2, l3, l4, l5, l6, l7, l8, l9, .int x, l11] (.int x :: st) h Q := xe_P_lo (ins := .iload 10) (len := 2) (by decide +kernel) rfl rfl
theorem xs_183_159 : xe_P d 183 159 ls (v1 :: v0 :: .ref a :: st) h Q = ((xe_w st ≤ 8 ∧ xe_ob h a 7) ∧ xe_C d 181 [.ref a, v0, v1] h (fun r h' => xe_P d 183 162 ls (r.toList ++ st) h' Q)) := xe_P_ivv (y := 183) (pc := 159) (z := 181) (i := 282) (vs := [v1, v0]) (by decide +kernel) (by decide +kernel) rfl (by decide +kernel)
theorem xs_183_162 : xe_P d 183 162 [l0, l1, l2, l3, l4, .int x, l6, l7, l8, l9, l10, l11] st h Q = xe_P d 183 164 [l0, l1, l2, l3, l4, .int x, l6, l7, l8, l9, l10, l11] (.int x :: st) h Q := xe_P_lo (ins := .iload 5) (len := 2) (by decide +kernel) rfl rfl
theorem xs_183_164 : xe_P d 183 164 ls (v1 :: v0 :: .ref a :: st) h Q = ((xe_w st ≤ 8 ∧ xe_ob h a 7) ∧ xe_C d 150 [.ref a, v0, v1] h (fun r h' => xe_P d 183 167 ls (r.toList ++ st) h' Q)) := xe_P_ivv (y := 183) (pc := 164) (z := 150) (i := 203) (vs := [v1, v0]) (by decide +kernel) (by decide +kernel) rfl (by decide +kernel)
theorem xs_183_167 : xe_P d 183 167 [l0, l1, l2, l3, l4, l5, l6, l7, l8, l9, l10, l11] (.int x :: st) h Q = xe_P d 183 169 [l0, l1, l2, l3, xe_cut l4, .int x, l6, l7, l8, l9, l10, l11] st h Q := xe_P_lo (ins := .istore 5) (len := 2) (by decide +kernel) rfl rfl
theorem xs_183_169 : xe_P d 183 169 [.ref a, l1, l2, l3, l4, l5, l6, l7, l8, l9, l10, l11] st h Q = xe_P d 183 170 [.ref a, l1, l2, l3, l4, l5, l6, l7, l8, l9, l10, l11] (.ref a :: st) h Q := xe_P_lo (ins := .aload_n 0) (len := 1) (by decide +kernel) rfl rfl
theorem xs_183_170 : xe_P d 183 170 ls (.ref a :: st) h Q = ((xe_w st ≤ 8 ∧ xe_ob h a 7) ∧ xe_C d 151 [.ref a] h (fun r h' => xe_P d 183 173 ls (r.toList ++ st) h' Q)) := xe_P_ivv (y := 183) (pc := 170) (z := 151) (i := 223) (vs := []) (by decide +kernel) (by decide +kernel) rfl (by decide +kernel)
theorem xs_183_173 : xe_P d 183 173 [l0, l1, l2, l3, l4, l5, .int x, l7, l8, l9, l10, l11] st h Q = xe_P d 183 175 [l0, l1, l2, l3, l4, l5, .int x, l7, l8, l9, l10, l11] (.int x :: st) h Q := xe_P_lo (ins := .iload 6) (len := 2) (by decide +kernel) rfl rfl
theorem xs_183_175 : xe_P d 183 175 ls (.int x :: st) h Q = (if x = 0 then xe_P d 183 178 ls st h Q else xe_P d 183 188 ls st h Q) := xe_P_ifn (ins := .ifCond .ne 13) (len := 3) (off := 13) (by decide +kernel) (by decide) rfl rfl rfl
theorem xs_183_178 : xe_P d 183 178 [l0, l1, l2, l3, l4, .int x, l6, l7, l8, l9, l10, l11] st h Q = xe_P d 183 180 [l0, l1, l2, l3, l4, .int x, l6, l7, l8, l9, l10, l11] (.int x :: st) h Q := xe_P_lo (ins := .iload 5) (len := 2) (by decide +kernel) rfl rfl
theorem xs_183_180 : xe_P d 183 180 [.ref a, l1, l2, l3, l4, l5, l6, l7, l8, l9, l10, l11] st h Q = xe_P d 183 181 [.ref a, l1, l2, l3, l4, l5, l6, l7, l8, l9, l10, l11] (.ref a :: st) h Q := xe_P_lo (ins := .aload_n 0) (len := 1) (by decide +kernel) rfl rfl
theorem xs_183_181 : xe_P d 183 181 [l0, .int x, l2, l3, l4, l5, l6, l7, l8, l9, l10, l11] st h Q = xe_P d 183 182 [l0, .int x, l2, l3, l4, l5, l6, l7, l8, l9, l10, l11] (.int x :: st) h Q := xe_P_lo (ins := .iload_n 1) (len := 1) (by decide +kernel) rfl rfl
theorem xs_183_182 : xe_P d 183 182 ls (v0 :: .ref a :: st) h Q = ((xe_w st ≤ 8 ∧ xe_ob h a 7) ∧ xe_C d 141 [.ref a, v0] h (fun r h' => xe_P d 183 185 ls (r.toList ++ st) h' Q)) := xe_P_ivv (y := 183) (pc := 182) (z := 141) (i := 215) (vs := [v0]) (by decide +kernel) (by decide +kernel) rfl (by decide +kernel)
theorem xs_183_185 : xe_P d 183 185 ls (.int v :: .int x :: st) h Q = (if x = v then xe_P d 183 188 ls st h Q else xe_P d 183 192 ls st h Q) := xe_P_ifn (ins := .if_icmp .ne 7) (len := 3) (off := 7) (by decide +kernel) (by decide) rfl rfl rfl
theorem xs_183_188 : xe_P d 183 188 ls st h Q = xe_P d 183 189 ls (.int 1 :: st) h Q := xe_P_ar (ins := .iconst 1) (len := 1) (by decide +kernel) rfl
theorem xs_183_189 : xe_P d 183 189 ls st h Q = xe_P d 183 193 ls st h Q := xe_P_go (len := 3) (off := 4) (by decide +kernel) (by decide)
theorem xs_183_192 : xe_P d 183 192 ls st h Q = xe_P d 183 193 ls (.int 0 :: st) h Q := xe_P_ar (ins := .iconst 0) (len := 1) (by decide +kernel) rfl
theorem xs_183_193 : xe_P d 183 193 [l0, l1, l2, l3, l4, l5, l6, l7, l8, l9, l10, l11] (.int x :: st) h Q = xe_P d 183 195 [l0, l1, l2, l3, l4, xe_cut l5, .int x, l7, l8, l9, l10, l11] st h Q := xe_P_lo (ins := .istore 6) (len := 2) (by decide +kernel) rfl rfl
theorem xs_183_195 : xe_P d 183 195 [l0, l1, l2, l3, .int x, l5, l6, l7, l8, l9, l10, l11] st h Q = xe_P d 183 197 [l0, l1, l2, l3, .int x, l5, l6, l7, l8, l9, l10, l11] (.int x :: st) h Q := xe_P_lo (ins := .iload 4) (len := 2) (by decide +kernel) rfl rfl
theorem xs_183_197 : xe_P d 183 197 ls st h Q = xe_P d 183 199 ls (.int 6 :: st) h Q := xe_P_ar (ins := .bipush 6) (len := 2) (by decide +kernel) rfl
theorem xs_183_199 : xe_P d 183 199 ls (.int v :: .int x :: st) h Q = (¬ v = 0 ∧ xe_P d 183 200 ls (.int (x / v) :: st) h Q) := xe_P_div (by decide +kernel)
theorem xs_183_200 : xe_P d 183 200 [l0, l1, l2, l3, l4, l5, l6, l7, l8, l9, l10, l11] (.int x :: st) h Q = xe_P d 183 202 [l0, l1, l2, xe_cut l3, .int x, l5, l6, l7, l8, l9, l10, l11] st h Q := xe_P_lo (ins := .istore 4) (len := 2) (by decide +kernel) rfl rfl
theorem xs_183_202 : xe_P d 183 202 [l0, l1, l2, l3, l4, l5, l6, l7, l8, .int x, l10, l11] st h Q = xe_P d 183 205 [l0, l1, l2, l3, l4, l5, l6, l7, xe_cut l8, .int (x + 1), l10, l11] st h Q := xe_P_lo (ins := .iinc 9 1) (len := 3) (by decide +kernel) rfl rfl
theorem xs_183_205 : xe_P d 183 205 ls st h Q = xe_P d 183 59 ls st h Q := xe_P_go (len := 3) (off := (-146)) (by decide +kernel) (by decide)
theorem xs_183_208 : xe_P d 183 208 [l0, l1, l2, l3, l4, l5, .int x, l7, l8, l9, l10, l11] st h Q = xe_P d 183 210 [l0, l1, l2, l3, l4, l5, .int x, l7, l8, l9, l10, l11] (.int x :: st) h Q := xe_P_lo (ins := .iload 6) (len := 2) (by decide +kernel) rfl rfl
theorem xs_183_210 : xe_P d 183 210 ls (.int x :: st) h Q = (if x = 0 then xe_P d 183 218 ls st h Q else xe_P d 183 213 ls st h Q) := xe_P_if (ins := .ifCond .eq 8) (len := 3) (off := 8) (by decide +kernel) (by decide) rfl rfl rfl
theorem xs_183_213 : xe_P d 183 213 [l0, l1, l2, l3, l4, l5, l6, .long w, l8, l9, l10, l11] st h Q = xe_P d 183 215 [l0, l1, l2, l3, l4, l5, l6, .long w, l8, l9, l10, l11] (.long w :: st) h Q := xe_P_lo (ins := .lload 7) (len := 2) (by decide +kernel) rfl rfl
theorem xs_183_215 : xe_P d 183 215 ls st h Q = xe_P d 183 219 ls st h Q := xe_P_go (len := 3) (off := 4) (by decide +kernel) (by decide)
theorem xs_183_218 : xe_P d 183 218 ls st h Q = xe_P d 183 219 ls (.long 0 :: st) h Q := xe_P_ar (ins := .lconst 0) (len := 1) (by decide +kernel) rfl
theorem xs_183_219 : xe_P d 183 219 ls [.long w] h Q = Q (some (.long w)) h := xe_P_lreturn (by decide +kernel) rfl
theorem xs_183 : xe_C (d + 1) 183 [.ref a, .int x0, .int x1, .int x2] h Q = xe_P d 183 0 [.ref a, .int x0, .int x1, .int x2, .retAddr 0, .retAddr 0, .retAddr 0, .retAddr 0, .retAddr 0, .retAddr 0, .retAddr 0, .retAddr 0] [] h Q := xe_C_at (Nat.le_of_ble_eq_true rfl) rfl
theorem xs_184_0 : xe_P d 184 0 [.ref a, l1, l2, l3, l4, l5, l6, l7, l8, l9] st h Q = xe_P d 184 1 [.ref a, l1, l2, l3, l4, l5, l6, l7, l8, l9] (.ref a :: st) h Q := xe_P_lo (ins := .aload_n 0) (len := 1) (by decide +kernel) rfl rfl
theorem xs_184_1 : xe_P d 184 1 [l0, .int x, l2, l3, l4, l5, l6, l7, l8, l9] st h Q = xe_P d 184 2 [l0, .int x, l2, l3, l4, l5, l6, l7, l8, l9] (.int x :: st) h Q := xe_P_lo (ins := .iload_n 1) (len := 1) (by decide +kernel) rfl rfl
theorem xs_184_2 : xe_P d 184 2 ls (v0 :: .ref a :: st) h Q = ((xe_w st ≤ 8 ∧ xe_ob h a 7) ∧ xe_C d 138 [.ref a, v0] h (fun r h' => xe_P d 184 5 ls (r.toList ++ st) h' Q)) := xe_P_ivv (y := 184) (pc := 2) (z := 138) (i := 184) (vs := [v0]) (by decide +kernel) (by decide +kernel) rfl (by decide +kernel)
theorem xs_184_5 : xe_P d 184 5 ls (.int x :: st) h Q = (if x = 0 then xe_P d 184 30 ls st h Q else xe_P d 184 8 ls st h Q) := xe_P_if (ins := .ifCond .eq 25) (len := 3) (off := 25) (by decide +kernel) (by decide) rfl rfl rfl
theorem xs_184_8 : xe_P d 184 8 [l0, l1, .int x, l3, l4, l5, l6, l7, l8, l9] st h Q = xe_P d 184 9 [l0, l1, .int x, l3, l4, l5, l6, l7, l8, l9] (.int x :: st) h Q := xe_P_lo (ins := .iload_n 2) (len := 1) (by decide +kernel) rfl rfl
theorem xs_184_9 : xe_P d 184 9 ls (.int x :: st) h Q = xe_P d 184 10 ls (.long x.toInt64 :: st) h Q := xe_P_ar (ins := .i2l) (len := 1) (by decide +kernel) rfl
theorem xs_184_10 : xe_P d 184 10 ls st h Q = xe_P d 184 11 ls (.long 0 :: st) h Q := xe_P_ar (ins := .lconst 0) (len := 1) (by decide +kernel) rfl
theorem xs_184_11 : xe_P d 184 11 ls st h Q = xe_P d 184 14 ls (.long 5 :: st) h Q := xe_P_ldc2 (j := 290) (by decide +kernel) (by decide +kernel)
theorem xs_184_14 : xe_P d 184 14 ls (v2 :: v1 :: v0 :: st) h Q = (xe_w st ≤ 8 ∧ xe_C d 120 [v0, v1, v2] h (fun r h' => xe_P d 184 17 ls (r.toList ++ st) h' Q)) := xe_P_ivs (y := 184) (pc := 14) (z := 120) (i := 88) (vs := [v2, v1, v0]) (by decide +kernel) (by decide +kernel) rfl
theorem xs_184_17 : xe_P d 184 17 ls (.int x :: st) h Q = (if x = 0 then xe_P d 184 30 ls st h Q else xe_P d 184 20 ls st h Q) := xe_P_if (ins := .ifCond .eq 13) (len := 3) (off := 13) (by decide +kernel) (by decide) rfl rfl rfl
theorem xs_184_20 : xe_P d 184 20 [l0, l1, l2, .int x, l4, l5, l6, l7, l8, l9] st h Q = xe_P d 184 21 [l0, l1, l2, .int x, l4, l5, l6, l7, l8, l9] (.int x :: st) h Q := xe_P_lo (ins := .iload_n 3) (len := 1) (by decide +kernel) rfl rfl
theorem xs_184_21 : xe_P d 184 21 ls (.int x :: st) h Q = xe_P d 184 22 ls (.long x.toInt64 :: st) h Q := xe_P_ar (ins := .i2l) (len := 1) (by decide +kernel) rfl
theorem xs_184_22 : xe_P d 184 22 ls st h Q = xe_P d 184 23 ls (.long 0 :: st) h Q := xe_P_ar (ins := .lconst 0) (len := 1) (by decide +kernel) rfl
theorem xs_184_23 : xe_P d 184 23 ls st h Q = xe_P d 184 24 ls (.long 1 :: st) h Q := xe_P_ar (ins := .lconst 1) (len := 1) (by decide +kernel) rfl
theorem xs_184_24 : xe_P d 184 24 ls (v2 :: v1 :: v0 :: st) h Q = (xe_w st ≤ 8 ∧ xe_C d 120 [v0, v1, v2] h (fun r h' => xe_P d 184 27 ls (r.toList ++ st) h' Q)) := xe_P_ivs (y := 184) (pc := 24) (z := 120) (i := 88) (vs := [v2, v1, v0]) (by decide +kernel) (by decide +kernel) rfl
theorem xs_184_27 : xe_P d 184 27 ls (.int x :: st) h Q = (if x = 0 then xe_P d 184 30 ls st h Q else xe_P d 184 34 ls st h Q) := xe_P_ifn (ins := .ifCond .ne 7) (len := 3) (off := 7) (by decide +kernel) (by decide) rfl rfl rfl
theorem xs_184_30 : xe_P d 184 30 ls st h Q = xe_P d 184 33 ls (.long (-1) :: st) h Q := xe_P_ldc2 (j := 292) (by decide +kernel) (by decide +kernel)
theorem xs_184_33 : xe_P d 184 33 ls [.long w] h Q = Q (some (.long w)) h := xe_P_lreturn (by decide +kernel) rfl
theorem xs_184_34 : xe_P d 184 34 ls st h Q = xe_P d 184 35 ls (.long 0 :: st) h Q := xe_P_ar (ins := .lconst 0) (len := 1) (by decide +kernel) rfl
theorem xs_184_35 : xe_P d 184 35 [l0, l1, l2, l3, l4, l5, l6, l7, l8, l9] (.long w :: st) h Q = xe_P d 184 37 [l0, l1, l2, xe_cut l3, .long w, .retAddr 0, l6, l7, l8, l9] st h Q := xe_P_lo (ins := .lstore 4) (len := 2) (by decide +kernel) rfl rfl
theorem xs_184_37 : xe_P d 184 37 ls st h Q = xe_P d 184 38 ls (.long 1 :: st) h Q := xe_P_ar (ins := .lconst 1) (len := 1) (by decide +kernel) rfl
theorem xs_184_38 : xe_P d 184 38 [l0, l1, l2, l3, l4, l5, l6, l7, l8, l9] (.long w :: st) h Q = xe_P d 184 40 [l0, l1, l2, l3, l4, xe_cut l5, .long w, .retAddr 0, l8, l9] st h Q := xe_P_lo (ins := .lstore 6) (len := 2) (by decide +kernel) rfl rfl
theorem xs_184_40 : xe_P d 184 40 ls st h Q = xe_P d 184 41 ls (.int 1 :: st) h Q := xe_P_ar (ins := .iconst 1) (len := 1) (by decide +kernel) rfl
theorem xs_184_41 : xe_P d 184 41 [l0, l1, l2, l3, l4, l5, l6, l7, l8, l9] (.int x :: st) h Q = xe_P d 184 43 [l0, l1, l2, l3, l4, l5, l6, xe_cut l7, .int x, l9] st h Q := xe_P_lo (ins := .istore 8) (len := 2) (by decide +kernel) rfl rfl
theorem xs_184_43 : xe_P d 184 43 ls st h Q = xe_P d 184 44 ls (.int 0 :: st) h Q := xe_P_ar (ins := .iconst 0) (len := 1) (by decide +kernel) rfl
theorem xs_184_44 : xe_P d 184 44 [l0, l1, l2, l3, l4, l5, l6, l7, l8, l9] (.int x :: st) h Q = xe_P d 184 46 [l0, l1, l2, l3, l4, l5, l6, l7, xe_cut l8, .int x] st h Q := xe_P_lo (ins := .istore 9) (len := 2) (by decide +kernel) rfl rfl
theorem xs_184_46 : xe_P d 184 46 [l0, l1, l2, l3, l4, l5, l6, l7, l8, .int x] st h Q = xe_P d 184 48 [l0, l1, l2, l3, l4, l5, l6, l7, l8, .int x] (.int x :: st) h Q := xe_P_lo (ins := .iload 9) (len := 2) (by decide +kernel) rfl rfl
theorem xs_184_48 : xe_P d 184 48 [l0, l1, .int x, l3, l4, l5, l6, l7, l8, l9] st h Q = xe_P d 184 49 [l0, l1, .int x, l3, l4, l5, l6, l7, l8, l9] (.int x :: st) h Q := xe_P_lo (ins := .iload_n 2) (len := 1) (by decide +kernel) rfl rfl
theorem xs_184_49 : xe_P d 184 49 ls (.int v :: .int x :: st) h Q = (if v ≤ x then xe_P d 184 73 ls st h Q else xe_P d 184 52 ls st h Q) := xe_P_if (ins := .if_icmp .ge 24) (len := 3) (off := 24) (by decide +kernel) (by decide) rfl rfl rfl
theorem xs_184_52 : xe_P d 184 52 [l0, l1, l2, l3, l4, l5, .long w, l7, l8, l9] st h Q = xe_P d 184 54 [l0, l1, l2, l3, l4, l5, .long w, l7, l8, l9] (.long w :: st) h Q := xe_P_lo (ins := .lload 6) (len := 2) (by decide +kernel) rfl rfl
theorem xs_184_54 : xe_P d 184 54 ls st h Q = xe_P d 184 57 ls (.long 60 :: st) h Q := xe_P_ldc2 (j := 288) (by decide +kernel) (by decide +kernel)
theorem xs_184_57 : xe_P d 184 57 ls (.long u :: .long w :: st) h Q = xe_P d 184 58 ls (.long (w * u) :: st) h Q := xe_P_ar (ins := .lmul) (len := 1) (by decide +kernel) rfl
theorem xs_184_58 : xe_P d 184 58 [l0, l1, l2, l3, l4, l5, l6, l7, l8, l9] (.long w :: st) h Q = xe_P d 184 60 [l0, l1, l2, l3, l4, xe_cut l5, .long w, .retAddr 0, l8, l9] st h Q := xe_P_lo (ins := .lstore 6) (len := 2) (by decide +kernel) rfl rfl
theorem xs_184_60 : xe_P d 184 60 [l0, l1, l2, l3, l4, l5, l6, l7, .int x, l9] st h Q = xe_P d 184 62 [l0, l1, l2, l3, l4, l5, l6, l7, .int x, l9] (.int x :: st) h Q := xe_P_lo (ins := .iload 8) (len := 2) (by decide +kernel) rfl rfl
theorem xs_184_62 : xe_P d 184 62 ls st h Q = xe_P d 184 64 ls (.int 6 :: st) h Q := xe_P_ar (ins := .bipush 6) (len := 2) (by decide +kernel) rfl
theorem xs_184_64 : xe_P d 184 64 ls (.int v :: .int x :: st) h Q = xe_P d 184 65 ls (.int (x * v) :: st) h Q := xe_P_ar (ins := .imul) (len := 1) (by decide +kernel) rfl
theorem xs_184_65 : xe_P d 184 65 [l0, l1, l2, l3, l4, l5, l6, l7, l8, l9] (.int x :: st) h Q = xe_P d 184 67 [l0, l1, l2, l3, l4, l5, l6, xe_cut l7, .int x, l9] st h Q := xe_P_lo (ins := .istore 8) (len := 2) (by decide +kernel) rfl rfl
theorem xs_184_67 : xe_P d 184 67 [l0, l1, l2, l3, l4, l5, l6, l7, l8, .int x] st h Q = xe_P d 184 70 [l0, l1, l2, l3, l4, l5, l6, l7, xe_cut l8, .int (x + 1)] st h Q := xe_P_lo (ins := .iinc 9 1) (len := 3) (by decide +kernel) rfl rfl
theorem xs_184_70 : xe_P d 184 70 ls st h Q = xe_P d 184 46 ls st h Q := xe_P_go (len := 3) (off := (-24)) (by decide +kernel) (by decide)
theorem xs_184_73 : xe_P d 184 73 ls st h Q = xe_P d 184 74 ls (.int 0 :: st) h Q := xe_P_ar (ins := .iconst 0) (len := 1) (by decide +kernel) rfl
theorem xs_184_74 : xe_P d 184 74 [l0, l1, l2, l3, l4, l5, l6, l7, l8, l9] (.int x :: st) h Q = xe_P d 184 76 [l0, l1, l2, l3, l4, l5, l6, l7, xe_cut l8, .int x] st h Q := xe_P_lo (ins := .istore 9) (len := 2) (by decide +kernel) rfl rfl
theorem xs_184_76 : xe_P d 184 76 [l0, l1, l2, l3, l4, l5, l6, l7, l8, .int x] st h Q = xe_P d 184 78 [l0, l1, l2, l3, l4, l5, l6, l7, l8, .int x] (.int x :: st) h Q := xe_P_lo (ins := .iload 9) (len := 2) (by decide +kernel) rfl rfl
theorem xs_184_78 : xe_P d 184 78 [l0, l1, l2, l3, l4, l5, l6, l7, .int x, l9] st h Q = xe_P d 184 80 [l0, l1, l2, l3, l4, l5, l6, l7, .int x, l9] (.int x :: st) h Q := xe_P_lo (ins := .iload 8) (len := 2) (by decide +kernel) rfl rfl
theorem xs_184_80 : xe_P d 184 80 ls (.int v :: .int x :: st) h Q = (if v ≤ x then xe_P d 184 102 ls st h Q else xe_P d 184 83 ls st h Q) := xe_P_if (ins := .if_icmp .ge 22) (len := 3) (off := 22) (by decide +kernel) (by decide) rfl rfl rfl
theorem xs_184_83 : xe_P d 184 83 [l0, l1, l2, l3, .long w, l5, l6, l7, l8, l9] st h Q = xe_P d 184 85 [l0, l1, l2, l3, .long w, l5, l6, l7, l8, l9] (.long w :: st) h Q := xe_P_lo (ins := .lload 4) (len := 2) (by decide +kernel) rfl rfl
theorem xs_184_85 : xe_P d 184 85 [.ref a, l1, l2, l3, l4, l5, l6, l7, l8, l9] st h Q = xe_P d 184 86 [.ref a, l1, l2, l3, l4, l5, l6, l7, l8, l9] (.ref a :: st) h Q := xe_P_lo (ins := .aload_n 0) (len := 1) (by decide +kernel) rfl rfl
theorem xs_184_86 : xe_P d 184 86 [l0, .int x, l2, l3, l4, l5, l6, l7, l8, l9] st h Q = xe_P d 184 87 [l0, .int x, l2, l3, l4, l5, l6, l7, l8, l9] (.int x :: st) h Q := xe_P_lo (ins := .iload_n 1) (len := 1) (by decide +kernel) rfl rfl
theorem xs_184_87 : xe_P d 184 87 [l0, l1, l2, l3, l4, l5, l6, l7, l8, .int x] st h Q = xe_P d 184 89 [l0, l1, l2, l3, l4, l5, l6, l7, l8, .int x] (.int x :: st) h Q := xe_P_lo (ins := .iload 9) (len := 2) (by decide +kernel) rfl rfl
theorem xs_184_89 : xe_P d 184 89 [l0, l1, .int x, l3, l4, l5, l6, l7, l8, l9] st h Q = xe_P d 184 90 [l0, l1, .int x, l3, l4, l5, l6, l7, l8, l9] (.int x :: st) h Q := xe_P_lo (ins := .iload_n 2) (len := 1) (by decide +kernel) rfl rfl
theorem xs_184_90 : xe_P d 184 90 ls (v2 :: v1 :: v0 :: .ref a :: st) h Q = ((xe_w st ≤ 8 ∧ xe_ob h a 7) ∧ xe_C d 183 [.ref a, v0, v1, v2] h (fun r h' => xe_P d 184 93 ls (r.toList ++ st) h' Q)) := xe_P_ivv (y := 184) (pc := 90) (z := 183) (i := 294) (vs := [v2, v1, v0]) (by decide +kernel) (by decide +kernel) rfl (by decide +kernel)
theorem xs_184_93 : xe_P d 184 93 ls (.long u :: .long w :: st) h Q = xe_P d 184 94 ls (.long (w + u) :: st) h Q := xe_P_ar (ins := .ladd) (len := 1) (by decide +kernel) rfl
theorem xs_184_94 : xe_P d 184 94 [l0, l1, l2, l3, l4, l5, l6, l7, l8, l9] (.long w :: st) h Q = xe_P d 184 96 [l0, l1, l2, xe_cut l3, .long w, .retAddr 0, l6, l7, l8, l9] st h Q := xe_P_lo (ins := .lstore 4) (len := 2) (by decide +kernel) rfl rfl
theorem xs_184_96 : xe_P d 184 96 [l0, l1, l2, l3, l4, l5, l6, l7, l8, .int x] st h Q = xe_P d 184 99 [l0, l1, l2, l3, l4, l5, l6, l7, xe_cut l8, .int (x + 1)] st h Q := xe_P_lo (ins := .iinc 9 1) (len := 3) (by decide +kernel) rfl rfl
theorem xs_184_99 : xe_P d 184 99 ls st h Q = xe_P d 184 76 ls st h Q := xe_P_go (len := 3) (off := (-23)) (by decide +kernel) (by decide)
theorem xs_184_102 : xe_P d 184 102 [l0, l1, l2, l3, .long w, l5, l6, l7, l8, l9] st h Q = xe_P d 184 104 [l0, l1, l2, l3, .long w, l5, l6, l7, l8, l9] (.long w :: st) h Q := xe_P_lo (ins := .lload 4) (len := 2) (by decide +kernel) rfl rfl
theorem xs_184_104 : xe_P d 184 104 [l0, l1, l2, l3, l4, l5, .long w, l7, l8, l9] st h Q = xe_P d 184 106 [l0, l1, l2, l3, l4, l5, .long w, l7, l8, l9] (.long w :: st) h Q := xe_P_lo (ins := .lload 6) (len := 2) (by decide +kernel) rfl rfl
theorem xs_184_106 : xe_P d 184 106 [l0, l1, l2, .int x, l4, l5, l6, l7, l8, l9] st h Q = xe_P d 184 107 [l0, l1, l2, .int x, l4, l5, l6, l7, l8, l9] (.int x :: st) h Q := xe_P_lo (ins := .iload_n 3) (len := 1) (by decide +kernel) rfl rfl
theorem xs_184_107 : xe_P d 184 107 ls (v2 :: v1 :: v0 :: st) h Q = (xe_w st ≤ 8 ∧ xe_C d 180 [v0, v1, v2] h (fun r h' => xe_P d 184 110 ls (r.toList ++ st) h' Q)) := xe_P_ivs (y := 184) (pc := 107) (z := 180) (i := 298) (vs := [v2, v1, v0]) (by decide +kernel) (by decide +kernel) rfl
theorem xs_184_110 : xe_P d 184 110 ls [.long w] h Q = Q (some (.long w)) h := xe_P_lreturn (by decide +kernel) rfl
theorem xs_184 : xe_C (d + 1) 184 [.ref a, .int x0, .int x1, .int x2] h Q = xe_P d 184 0 [.ref a, .int x0, .int x1, .int x2, .retAddr 0, .retAddr 0, .retAddr 0, .retAddr 0, .retAddr 0, .retAddr 0] [] h Q := xe_C_at (Nat.le_of_ble_eq_true rfl) rfl
theorem xs_185_0 : xe_P d 185 0 [.ref a, l1, l2, l3] st h Q = xe_P d 185 1 [.ref a, l1, l2, l3] (.ref a :: st) h Q := xe_P_lo (ins := .aload_n 0) (len := 1) (by decide +kernel) rfl rfl
theorem xs_185_1 : xe_P d 185 1 [l0, .int x, l2, l3] st h Q = xe_P d 185 2 [l0, .int x, l2, l3] (.int x :: st) h Q := xe_P_lo (ins := .iload_n 1) (len := 1) (by decide +kernel) rfl rfl
theorem xs_185_2 : xe_P d 185 2 ls (v0 :: .ref a :: st) h Q = ((xe_w st ≤ 8 ∧ xe_ob h a 7) ∧ xe_C d 137 [.ref a, v0] h (fun r h' => xe_P d 185 5 ls (r.toList ++ st) h' Q)) := xe_P_ivv (y := 185) (pc := 2) (z := 137) (i := 191) (vs := [v0]) (by decide +kernel) (by decide +kernel) rfl (by decide +kernel)
theorem xs_185_5 : xe_P d 185 5 ls (.int x :: st) h Q = (if x = 0 then xe_P d 185 8 ls st h Q else xe_P d 185 14 ls st h Q) := xe_P_ifn (ins := .ifCond .ne 9) (len := 3) (off := 9) (by decide +kernel) (by decide) rfl rfl rfl
theorem xs_185_8 : xe_P d 185 8 [l0, .int x, l2, l3] st h Q = xe_P d 185 9 [l0, .int x, l2, l3] (.int x :: st) h Q := xe_P_lo (ins := .iload_n 1) (len := 1) (by decide +kernel) rfl rfl
theorem xs_185_9 : xe_P d 185 9 ls st h Q = xe_P d 185 11 ls (.int (-4) :: st) h Q := xe_P_ar (ins := .bipush (-4)) (len := 2) (by decide +kernel) rfl
theorem xs_185_11 : xe_P d 185 11 ls (.int v :: .int x :: st) h Q = (if x = v then xe_P d 185 14 ls st h Q else xe_P d 185 22 ls st h Q) := xe_P_ifn (ins := .if_icmp .ne 11) (len := 3) (off := 11) (by decide +kernel) (by decide) rfl rfl rfl
theorem xs_185_14 : xe_P d 185 14 [.ref a, l1, l2, l3] st h Q = xe_P d 185 15 [.ref a, l1, l2, l3] (.ref a :: st) h Q := xe_P_lo (ins := .aload_n 0) (len := 1) (by decide +kernel) rfl rfl
theorem xs_185_15 : xe_P d 185 15 [l0, l1, .int x, l3] st h Q = xe_P d 185 16 [l0, l1, .int x, l3] (.int x :: st) h Q := xe_P_lo (ins := .iload_n 2) (len := 1) (by decide +kernel) rfl rfl
theorem xs_185_16 : xe_P d 185 16 ls (v0 :: .ref a :: st) h Q = ((xe_w st ≤ 8 ∧ xe_ob h a 7) ∧ xe_C d 137 [.ref a, v0] h (fun r h' => xe_P d 185 19 ls (r.toList ++ st) h' Q)) := xe_P_ivv (y := 185) (pc := 16) (z := 137) (i := 191) (vs := [v0]) (by decide +kernel) (by decide +kernel) rfl (by decide +kernel)
theorem xs_185_19 : xe_P d 185 19 ls (.int x :: st) h Q = (if x = 0 then xe_P d 185 22 ls st h Q else xe_P d 185 24 ls st h Q) := xe_P_ifn (ins := .ifCond .ne 5) (len := 3) (off := 5) (by decide +kernel) (by decide) rfl rfl rfl
theorem xs_185_22 : xe_P d 185 22 ls st h Q = xe_P d 185 23 ls (.int (-1) :: st) h Q := xe_P_ar (ins := .iconst (-1)) (len := 1) (by decide +kernel) rfl
theorem xs_185_23 : xe_P d 185 23 ls [.int x] h Q = Q (some (.int x)) h := xe_P_ireturn (by decide +kernel) rfl
theorem xs_185_24 : xe_P d 185 24 [.ref a, l1, l2, l3] st h Q = xe_P d 185 25 [.ref a, l1, l2, l3] (.ref a :: st) h Q := xe_P_lo (ins := .aload_n 0) (len := 1) (by decide +kernel) rfl rfl
theorem xs_185_25 : xe_P d 185 25 ls (.ref a :: st) h Q = (xe_ob h a 7 ∧ xe_P d 185 28 ls (.int (xe_I h a 32) :: st) h Q) := xe_P_getI (i := 178) (by decide +kernel) (by decide +kernel) (by decide) rfl
theorem xs_185_28 : xe_P d 185 28 ls st h Q = xe_P d 185 30 ls (.int 6 :: st) h Q := xe_P_ar (ins := .bipush 6) (len := 2) (by decide +kernel) rfl
theorem xs_185_30 : xe_P d 185 30 ls (.int v :: .int x :: st) h Q = (if x = v then xe_P d 185 33 ls st h Q else xe_P d 185 36 ls st h Q) := xe_P_ifn (ins := .if_icmp .ne 6) (len := 3) (off := 6) (by decide +kernel) (by decide) rfl rfl rfl
theorem xs_185_33 : xe_P d 185 33 ls st h Q = xe_P d 185 35 ls (.int (-3) :: st) h Q := xe_P_ar (ins := .bipush (-3)) (len := 2) (by decide +kernel) rfl
theorem xs_185_35 : xe_P d 185 35 ls [.int x] h Q = Q (some (.int x)) h := xe_P_ireturn (by decide +kernel) rfl
theorem xs_185_36 : xe_P d 185 36 [.ref a, l1, l2, l3] st h Q = xe_P d 185 37 [.ref a, l1, l2, l3] (.ref a :: st) h Q := xe_P_lo (ins := .aload_n 0) (len := 1) (by decide +kernel) rfl rfl
theorem xs_185_37 : xe_P d 185 37 ls (.ref a :: st) h Q = (xe_ob h a 7 ∧ xe_P d 185 40 ls (va_rf (xe_R h a 31) :: st) h Q) := xe_P_getR (i := 60) (by decide +kernel) (by decide +kernel) (by decide) rfl
theorem xs_185_40 : xe_P d 185 40 ls st h Q = xe_P d 185 41 ls (.int 3 :: st) h Q := xe_P_ar (ins := .iconst 3) (len := 1) (by decide +kernel) rfl
theorem xs_185_41 : xe_P d 185 41 [.ref a, l1, l2, l3] st h Q = xe_P d 185 42 [.ref a, l1, l2, l3] (.ref a :: st) h Q := xe_P_lo (ins := .aload_n 0) (len := 1) (by decide +kernel) rfl rfl
theorem xs_185_42 : xe_P d 185 42 ls (.ref a :: st) h Q = (xe_ob h a 7 ∧ xe_P d 185 45 ls (.int (xe_I h a 32) :: st) h Q) := xe_P_getI (i := 178) (by decide +kernel) (by decide +kernel) (by decide) rfl
theorem xs_185_45 : xe_P d 185 45 ls (.int v :: .int x :: st) h Q = xe_P d 185 46 ls (.int (x * v) :: st) h Q := xe_P_ar (ins := .imul) (len := 1) (by decide +kernel) rfl
theorem xs_185_46 : xe_P d 185 46 [l0, .int x, l2, l3] st h Q = xe_P d 185 47 [l0, .int x, l2, l3] (.int x :: st) h Q := xe_P_lo (ins := .iload_n 1) (len := 1) (by decide +kernel) rfl rfl
theorem xs_185_47 : xe_P d 185 47 ls (.int x :: .int v :: .ref a :: st) h Q = ((xe_ob h a 8 ∧ xe_ix h a v) ∧ xe_P d 185 48 ls st (xe_sI h a v.toNatClampNeg x) Q) := xe_P_iast (by decide +kernel)
theorem xs_185_48 : xe_P d 185 48 [.ref a, l1, l2, l3] st h Q = xe_P d 185 49 [.ref a, l1, l2, l3] (.ref a :: st) h Q := xe_P_lo (ins := .aload_n 0) (len := 1) (by decide +kernel) rfl rfl
theorem xs_185_49 : xe_P d 185 49 ls (.ref a :: st) h Q = (xe_ob h a 7 ∧ xe_P d 185 52 ls (va_rf (xe_R h a 31) :: st) h Q) := xe_P_getR (i := 60) (by decide +kernel) (by decide +kernel) (by decide) rfl
theorem xs_185_52 : xe_P d 185 52 ls st h Q = xe_P d 185 53 ls (.int 3 :: st) h Q := xe_P_ar (ins := .iconst 3) (len := 1) (by decide +kernel) rfl
theorem xs_185_53 : xe_P d 185 53 [.ref a, l1, l2, l3] st h Q = xe_P d 185 54 [.ref a, l1, l2, l3] (.ref a :: st) h Q := xe_P_lo (ins := .aload_n 0) (len := 1) (by decide +kernel) rfl rfl
theorem xs_185_54 : xe_P d 185 54 ls (.ref a :: st) h Q = (xe_ob h a 7 ∧ xe_P d 185 57 ls (.int (xe_I h a 32) :: st) h Q) := xe_P_getI (i := 178) (by decide +kernel) (by decide +kernel) (by decide) rfl
theorem xs_185_57 : xe_P d 185 57 ls (.int v :: .int x :: st) h Q = xe_P d 185 58 ls (.int (x * v) :: st) h Q := xe_P_ar (ins := .imul) (len := 1) (by decide +kernel) rfl
theorem xs_185_58 : xe_P d 185 58 ls st h Q = xe_P d 185 59 ls (.int 1 :: st) h Q := xe_P_ar (ins := .iconst 1) (len := 1) (by decide +kernel) rfl
theorem xs_185_59 : xe_P d 185 59 ls (.int v :: .int x :: st) h Q = xe_P d 185 60 ls (.int (x + v) :: st) h Q := xe_P_ar (ins := .iadd) (len := 1) (by decide +kernel) rfl
theorem xs_185_60 : xe_P d 185 60 [l0, l1, .int x, l3] st h Q = xe_P d 185 61 [l0, l1, .int x, l3] (.int x :: st) h Q := xe_P_lo (ins := .iload_n 2) (len := 1) (by decide +kernel) rfl rfl
theorem xs_185_61 : xe_P d 185 61 ls (.int x :: .int v :: .ref a :: st) h Q = ((xe_ob h a 8 ∧ xe_ix h a v) ∧ xe_P d 185 62 ls st (xe_sI h a v.toNatClampNeg x) Q) := xe_P_iast (by decide +kernel)
theorem xs_185_62 : xe_P d 185 62 [.ref a, l1, l2, l3] st h Q = xe_P d 185 63 [.ref a, l1, l2, l3] (.ref a :: st) h Q := xe_P_lo (ins := .aload_n 0) (len := 1) (by decide +kernel) rfl rfl
theorem xs_185_63 : xe_P d 185 63 ls (.ref a :: st) h Q = (xe_ob h a 7 ∧ xe_P d 185 66 ls (va_rf (xe_R h a 31) :: st) h Q) := xe_P_getR (i := 60) (by decide +kernel) (by decide +kernel) (by decide) rfl
theorem xs_185_66 : xe_P d 185 66 ls st h Q = xe_P d 185 67 ls (.int 3 :: st) h Q := xe_P_ar (ins := .iconst 3) (len := 1) (by decide +kernel) rfl
theorem xs_185_67 : xe_P d 185 67 [.ref a, l1, l2, l3] st h Q = xe_P d 185 68 [.ref a, l1, l2, l3] (.ref a :: st) h Q := xe_P_lo (ins := .aload_n 0) (len := 1) (by decide +kernel) rfl rfl
theorem xs_185_68 : xe_P d 185 68 ls (.ref a :: st) h Q = (xe_ob h a 7 ∧ xe_P d 185 71 ls (.int (xe_I h a 32) :: st) h Q) := xe_P_getI (i := 178) (by decide +kernel) (by decide +kernel) (by decide) rfl
theorem xs_185_71 : xe_P d 185 71 ls (.int v :: .int x :: st) h Q = xe_P d 185 72 ls (.int (x * v) :: st) h Q := xe_P_ar (ins := .imul) (len := 1) (by decide +kernel) rfl
theorem xs_185_72 : xe_P d 185 72 ls st h Q = xe_P d 185 73 ls (.int 2 :: st) h Q := xe_P_ar (ins := .iconst 2) (len := 1) (by decide +kernel) rfl
theorem xs_185_73 : xe_P d 185 73 ls (.int v :: .int x :: st) h Q = xe_P d 185 74 ls (.int (x + v) :: st) h Q := xe_P_ar (ins := .iadd) (len := 1) (by decide +kernel) rfl
theorem xs_185_74 : xe_P d 185 74 [l0, l1, l2, .int x] st h Q = xe_P d 185 75 [l0, l1, l2, .int x] (.int x :: st) h Q := xe_P_lo (ins := .iload_n 3) (len := 1) (by decide +kernel) rfl rfl
theorem xs_185_75 : xe_P d 185 75 ls (.int x :: st) h Q = (if x = 0 then xe_P d 185 82 ls st h Q else xe_P d 185 78 ls st h Q) := xe_P_if (ins := .ifCond .eq 7) (len := 3) (off := 7) (by decide +kernel) (by decide) rfl rfl rfl
theorem xs_185_78 : xe_P d 185 78 ls st h Q = xe_P d 185 79 ls (.int 1 :: st) h Q := xe_P_ar (ins := .iconst 1) (len := 1) (by decide +kernel) rfl
theorem xs_185_79 : xe_P d 185 79 ls st h Q = xe_P d 185 83 ls st h Q := xe_P_go (len := 3) (off := 4) (by decide +kernel) (by decide)
theorem xs_185_82 : xe_P d 185 82 ls st h Q = xe_P d 185 83 ls (.int 0 :: st) h Q := xe_P_ar (ins := .iconst 0) (len := 1) (by decide +kernel) rfl
theorem xs_185_83 : xe_P d 185 83 ls (.int x :: .int v :: .ref a :: st) h Q = ((xe_ob h a 8 ∧ xe_ix h a v) ∧ xe_P d 185 84 ls st (xe_sI h a v.toNatClampNeg x) Q) := xe_P_iast (by decide +kernel)
theorem xs_185_84 : xe_P d 185 84 [.ref a, l1, l2, l3] st h Q = xe_P d 185 85 [.ref a, l1, l2, l3] (.ref a :: st) h Q := xe_P_lo (ins := .aload_n 0) (len := 1) (by decide +kernel) rfl rfl
theorem xs_185_85 : xe_P d 185 85 ls (.ref a :: st) h Q = xe_P d 185 86 ls (.ref a :: .ref a :: st) h Q := xe_P_ar (ins := .dup) (len := 1) (by decide +kernel) rfl
theorem xs_185_85i : xe_P d 185 85 ls (.int x :: st) h Q = xe_P d 185 86 ls (.int x :: .int x :: st) h Q := xe_P_ar (ins := .dup) (len := 1) (by decide +kernel) rfl
theorem xs_185_86 : xe_P d 185 86 ls (.ref a :: st) h Q = (xe_ob h a 7 ∧ xe_P d 185 89 ls (.int (xe_I h a 32) :: st) h Q) := xe_P_getI (i := 178) (by decide +kernel) (by decide +kernel) (by decide) rfl
theorem xs_185_89 : xe_P d 185 89 ls st h Q = xe_P d 185 90 ls (.int 1 :: st) h Q := xe_P_ar (ins := .iconst 1) (len := 1) (by decide +kernel) rfl
theorem xs_185_90 : xe_P d 185 90 ls (.int v :: .int x :: st) h Q = xe_P d 185 91 ls (.int (x + v) :: st) h Q := xe_P_ar (ins := .iadd) (len := 1) (by decide +kernel) rfl
theorem xs_185_91 : xe_P d 185 91 ls (.int v :: .ref a :: st) h Q = (xe_ob h a 7 ∧ xe_P d 185 94 ls st (xe_sI h a 32 v) Q) := xe_P_putI (i := 178) (by decide +kernel) (by decide +kernel) (by decide) (by decide +kernel) rfl
theorem xs_185_94 : xe_P d 185 94 [.ref a, l1, l2, l3] st h Q = xe_P d 185 95 [.ref a, l1, l2, l3] (.ref a :: st) h Q := xe_P_lo (ins := .aload_n 0) (len := 1) (by decide +kernel) rfl rfl
theorem xs_185_95 : xe_P d 185 95 ls (.ref a :: st) h Q = (xe_ob h a 7 ∧ xe_P d 185 98 ls (.int (xe_I h a 32) :: st) h Q) := xe_P_getI (i := 178) (by decide +kernel) (by decide +kernel) (by decide) rfl
theorem xs_185_98 : xe_P d 185 98 ls [.int x] h Q = Q (some (.int x)) h := xe_P_ireturn (by decide +kernel) rfl
theorem xs_185 : xe_C (d + 1) 185 [.ref a, .int x0, .int x1, .int x2] h Q = xe_P d 185 0 [.ref a, .int x0, .int x1, .int x2] [] h Q := xe_C_at (Nat.le_of_ble_eq_true rfl) rfl
theorem xs_186_0 : xe_P d 186 0 [l0, .int x, l2] st h Q = xe_P d 186 1 [l0, .int x, l2] (.int x :: st) h Q := xe_P_lo (ins := .iload_n 1) (len := 1) (by decide +kernel) rfl rfl
theorem xs_186_1 : xe_P d 186 1 ls (.int x :: st) h Q = xe_P d 186 2 ls (.long x.toInt64 :: st) h Q := xe_P_ar (ins := .i2l) (len := 1) (by decide +kernel) rfl
theorem xs_186_2 : xe_P d 186 2 ls st h Q = xe_P d 186 3 ls (.long 0 :: st) h Q := xe_P_ar (ins := .lconst 0) (len := 1) (by decide +kernel) rfl
theorem xs_186_3 : xe_P d 186 3 [.ref a, l1, l2] st h Q = xe_P d 186 4 [.ref a, l1, l2] (.ref a :: st) h Q := xe_P_lo (ins := .aload_n 0) (len := 1) (by decide +kernel) rfl rfl
theorem xs_186_4 : xe_P d 186 4 ls (.ref a :: st) h Q = (xe_ob h a 7 ∧ xe_P d 186 7 ls (.int (xe_I h a 32) :: st) h Q) := xe_P_getI (i := 178) (by decide +kernel) (by decide +kernel) (by decide) rfl
theorem xs_186_7 : xe_P d 186 7 ls (.int x :: st) h Q = xe_P d 186 8 ls (.long x.toInt64 :: st) h Q := xe_P_ar (ins := .i2l) (len := 1) (by decide +kernel) rfl
theorem xs_186_8 : xe_P d 186 8 ls (v2 :: v1 :: v0 :: st) h Q = (xe_w st ≤ 8 ∧ xe_C d 120 [v0, v1, v2] h (fun r h' => xe_P d 186 11 ls (r.toList ++ st) h' Q)) := xe_P_ivs (y := 186) (pc := 8) (z := 120) (i := 88) (vs := [v2, v1, v0]) (by decide +kernel) (by decide +kernel) rfl
theorem xs_186_11 : xe_P d 186 11 ls (.int x :: st) h Q = (if x = 0 then xe_P d 186 14 ls st h Q else xe_P d 186 16 ls st h Q) := xe_P_ifn (ins := .ifCond .ne 5) (len := 3) (off := 5) (by decide +kernel) (by decide) rfl rfl rfl
theorem xs_186_14 : xe_P d 186 14 ls st h Q = xe_P d 186 15 ls (.int (-1) :: st) h Q := xe_P_ar (ins := .iconst (-1)) (len := 1) (by decide +kernel) rfl
theorem xs_186_15 : xe_P d 186 15 ls [.int x] h Q = Q (some (.int x)) h := xe_P_ireturn (by decide +kernel) rfl
theorem xs_186_16 : xe_P d 186 16 [.ref a, l1, l2] st h Q = xe_P d 186 17 [.ref a, l1, l2] (.ref a :: st) h Q := xe_P_lo (ins := .aload_n 0) (len := 1) (by decide +kernel) rfl rfl
theorem xs_186_17 : xe_P d 186 17 ls (.ref a :: st) h Q = (xe_ob h a 7 ∧ xe_P d 186 20 ls (.int (xe_I h a 32) :: st) h Q) := xe_P_getI (i := 178) (by decide +kernel) (by decide +kernel) (by decide) rfl
theorem xs_186_20 : xe_P d 186 20 [l0, l1, l2] (.int x :: st) h Q = xe_P d 186 21 [l0, xe_cut l1, .int x] st h Q := xe_P_lo (ins := .istore_n 2) (len := 1) (by decide +kernel) rfl rfl
theorem xs_186_21 : xe_P d 186 21 [.ref a, l1, l2] st h Q = xe_P d 186 22 [.ref a, l1, l2] (.ref a :: st) h Q := xe_P_lo (ins := .aload_n 0) (len := 1) (by decide +kernel) rfl rfl
theorem xs_186_22 : xe_P d 186 22 [l0, .int x, l2] st h Q = xe_P d 186 23 [l0, .int x, l2] (.int x :: st) h Q := xe_P_lo (ins := .iload_n 1) (len := 1) (by decide +kernel) rfl rfl
theorem xs_186_23 : xe_P d 186 23 ls (.int v :: .ref a :: st) h Q = (xe_ob h a 7 ∧ xe_P d 186 26 ls st (xe_sI h a 32 v) Q) := xe_P_putI (i := 178) (by decide +kernel) (by decide +kernel) (by decide) (by decide +kernel) rfl
theorem xs_186_26 : xe_P d 186 26 [l0, l1, .int x] st h Q = xe_P d 186 27 [l0, l1, .int x] (.int x :: st) h Q := xe_P_lo (ins := .iload_n 2) (len := 1) (by decide +kernel) rfl rfl
theorem xs_186_27 : xe_P d 186 27 ls [.int x] h Q = Q (some (.int x)) h := xe_P_ireturn (by decide +kernel) rfl
theorem xs_186 : xe_C (d + 1) 186 [.ref a, .int x0] h Q = xe_P d 186 0 [.ref a, .int x0, .retAddr 0] [] h Q := xe_C_at (Nat.le_of_ble_eq_true rfl) rfl
theorem xs_187_0 : xe_P d 187 0 [l0, .int x, l2, l3, l4, l5] st h Q = xe_P d 187 1 [l0, .int x, l2, l3, l4, l5] (.int x :: st) h Q := xe_P_lo (ins := .iload_n 1) (len := 1) (by decide +kernel) rfl rfl
theorem xs_187_1 : xe_P d 187 1 [l0, l1, l2, l3, l4, l5] (.int x :: st) h Q = xe_P d 187 2 [l0, xe_cut l1, .int x, l3, l4, l5] st h Q := xe_P_lo (ins := .istore_n 2) (len := 1) (by decide +kernel) rfl rfl
theorem xs_187_2 : xe_P d 187 2 [.ref a, l1, l2, l3, l4, l5] st h Q = xe_P d 187 3 [.ref a, l1, l2, l3, l4, l5] (.ref a :: st) h Q := xe_P_lo (ins := .aload_n 0) (len := 1) (by decide +kernel) rfl rfl
theorem xs_187_3 : xe_P d 187 3 ls (.ref a :: st) h Q = ((xe_w st ≤ 8 ∧ xe_ob h a 7) ∧ xe_C d 136 [.ref a] h (fun r h' => xe_P d 187 6 ls (r.toList ++ st) h' Q)) := xe_P_ivv (y := 187) (pc := 3) (z := 136) (i := 181) (vs := []) (by decide +kernel) (by decide +kernel) rfl (by decide +kernel)
theorem xs_187_6 : xe_P d 187 6 [l0, l1, l2, l3, l4, l5] (.int x :: st) h Q = xe_P d 187 7 [l0, l1, xe_cut l2, .int x, l4, l5] st h Q := xe_P_lo (ins := .istore_n 3) (len := 1) (by decide +kernel) rfl rfl
theorem xs_187_7 : xe_P d 187 7 [l0, l1, l2, .int x, l4, l5] st h Q = xe_P d 187 8 [l0, l1, l2, .int x, l4, l5] (.int x :: st) h Q := xe_P_lo (ins := .iload_n 3) (len := 1) (by decide +kernel) rfl rfl
theorem xs_187_8 : xe_P d 187 8 ls st h Q = xe_P d 187 9 ls (.int 1 :: st) h Q := xe_P_ar (ins := .iconst 1) (len := 1) (by decide +kernel) rfl
theorem xs_187_9 : xe_P d 187 9 ls (.int v :: .int x :: st) h Q = xe_P d 187 10 ls (.int (x - v) :: st) h Q := xe_P_ar (ins := .isub) (len := 1) (by decide +kernel) rfl
theorem xs_187_10 : xe_P d 187 10 [l0, l1, l2, l3, l4, l5] (.int x :: st) h Q = xe_P d 187 12 [l0, l1, l2, xe_cut l3, .int x, l5] st h Q := xe_P_lo (ins := .istore 4) (len := 2) (by decide +kernel) rfl rfl
theorem xs_187_12 : xe_P d 187 12 [l0, l1, l2, l3, .int x, l5] st h Q = xe_P d 187 14 [l0, l1, l2, l3, .int x, l5] (.int x :: st) h Q := xe_P_lo (ins := .iload 4) (len := 2) (by decide +kernel) rfl rfl
theorem xs_187_14 : xe_P d 187 14 ls (.int x :: st) h Q = (if x < 0 then xe_P d 187 68 ls st h Q else xe_P d 187 17 ls st h Q) := xe_P_if (ins := .ifCond .lt 54) (len := 3) (off := 54) (by decide +kernel) (by decide) rfl rfl rfl
theorem xs_187_17 : xe_P d 187 17 [l0, l1, .int x, l3, l4, l5] st h Q = xe_P d 187 18 [l0, l1, .int x, l3, l4, l5] (.int x :: st) h Q := xe_P_lo (ins := .iload_n 2) (len := 1) (by decide +kernel) rfl rfl
theorem xs_187_18 : xe_P d 187 18 [l0, l1, l2, .int x, l4, l5] st h Q = xe_P d 187 19 [l0, l1, l2, .int x, l4, l5] (.int x :: st) h Q := xe_P_lo (ins := .iload_n 3) (len := 1) (by decide +kernel) rfl rfl
theorem xs_187_19 : xe_P d 187 19 ls (.int v :: .int x :: st) h Q = (¬ v = 0 ∧ xe_P d 187 20 ls (.int (x - x / v * v) :: st) h Q) := xe_P_rem (by decide +kernel)
theorem xs_187_20 : xe_P d 187 20 [l0, l1, l2, l3, l4, l5] (.int x :: st) h Q = xe_P d 187 22 [l0, l1, l2, l3, xe_cut l4, .int x] st h Q := xe_P_lo (ins := .istore 5) (len := 2) (by decide +kernel) rfl rfl
theorem xs_187_22 : xe_P d 187 22 [l0, l1, .int x, l3, l4, l5] st h Q = xe_P d 187 23 [l0, l1, .int x, l3, l4, l5] (.int x :: st) h Q := xe_P_lo (ins := .iload_n 2) (len := 1) (by decide +kernel) rfl rfl
theorem xs_187_23 : xe_P d 187 23 [l0, l1, l2, .int x, l4, l5] st h Q = xe_P d 187 24 [l0, l1, l2, .int x, l4, l5] (.int x :: st) h Q := xe_P_lo (ins := .iload_n 3) (len := 1) (by decide +kernel) rfl rfl
theorem xs_187_24 : xe_P d 187 24 ls (.int v :: .int x :: st) h Q = (¬ v = 0 ∧ xe_P d 187 25 ls (.int (x / v) :: st) h Q) := xe_P_div (by decide +kernel)
theorem xs_187_25 : xe_P d 187 25 [l0, l1, l2, l3, l4, l5] (.int x :: st) h Q = xe_P d 187 26 [l0, xe_cut l1, .int x, l3, l4, l5] st h Q := xe_P_lo (ins := .istore_n 2) (len := 1) (by decide +kernel) rfl rfl
theorem xs_187_26 : xe_P d 187 26 [.ref a, l1, l2, l3, l4, l5] st h Q = xe_P d 187 27 [.ref a, l1, l2, l3, l4, l5] (.ref a :: st) h Q := xe_P_lo (ins := .aload_n 0) (len := 1) (by decide +kernel) rfl rfl
theorem xs_187_27 : xe_P d 187 27 ls (.ref a :: st) h Q = (xe_ob h a 7 ∧ xe_P d 187 30 ls (va_rf (xe_R h a 33) :: st) h Q) := xe_P_getR (i := 63) (by decide +kernel) (by decide +kernel) (by decide) rfl
theorem xs_187_30 : xe_P d 187 30 [l0, l1, l2, l3, .int x, l5] st h Q = xe_P d 187 32 [l0, l1, l2, l3, .int x, l5] (.int x :: st) h Q := xe_P_lo (ins := .iload 4) (len := 2) (by decide +kernel) rfl rfl
theorem xs_187_32 : xe_P d 187 32 [l0, l1, l2, l3, l4, .int x] st h Q = xe_P d 187 34 [l0, l1, l2, l3, l4, .int x] (.int x :: st) h Q := xe_P_lo (ins := .iload 5) (len := 2) (by decide +kernel) rfl rfl
theorem xs_187_34 : xe_P d 187 34 [l0, l1, l2, .int x, l4, l5] st h Q = xe_P d 187 35 [l0, l1, l2, .int x, l4, l5] (.int x :: st) h Q := xe_P_lo (ins := .iload_n 3) (len := 1) (by decide +kernel) rfl rfl
theorem xs_187_35 : xe_P d 187 35 ls st h Q = xe_P d 187 36 ls (.int 1 :: st) h Q := xe_P_ar (ins := .iconst 1) (len := 1) (by decide +kernel) rfl
theorem xs_187_36 : xe_P d 187 36 ls (.int v :: .int x :: st) h Q = xe_P d 187 37 ls (.int (x - v) :: st) h Q := xe_P_ar (ins := .isub) (len := 1) (by decide +kernel) rfl
theorem xs_187_37 : xe_P d 187 37 ls (.int v :: .int x :: st) h Q = (if x = v then xe_P d 187 40 ls st h Q else xe_P d 187 45 ls st h Q) := xe_P_ifn (ins := .if_icmp .ne 8) (len := 3) (off := 8) (by decide +kernel) (by decide) rfl rfl rfl
theorem xs_187_40 : xe_P d 187 40 ls st h Q = xe_P d 187 42 ls (.int (-4) :: st) h Q := xe_P_ar (ins := .bipush (-4)) (len := 2) (by decide +kernel) rfl
theorem xs_187_42 : xe_P d 187 42 ls st h Q = xe_P d 187 61 ls st h Q := xe_P_go (len := 3) (off := 19) (by decide +kernel) (by decide)
theorem xs_187_45 : xe_P d 187 45 [l0, l1, l2, l3, l4, .int x] st h Q = xe_P d 187 47 [l0, l1, l2, l3, l4, .int x] (.int x :: st) h Q := xe_P_lo (ins := .iload 5) (len := 2) (by decide +kernel) rfl rfl
theorem xs_187_47 : xe_P d 187 47 [l0, l1, l2, l3, .int x, l5] st h Q = xe_P d 187 49 [l0, l1, l2, l3, .int x, l5] (.int x :: st) h Q := xe_P_lo (ins := .iload 4) (len := 2) (by decide +kernel) rfl rfl
theorem xs_187_49 : xe_P d 187 49 ls (.int v :: .int x :: st) h Q = (if v ≤ x then xe_P d 187 57 ls st h Q else xe_P d 187 52 ls st h Q) := xe_P_if (ins := .if_icmp .ge 8) (len := 3) (off := 8) (by decide +kernel) (by decide) rfl rfl rfl
theorem xs_187_52 : xe_P d 187 52 [l0, l1, l2, l3, l4, .int x] st h Q = xe_P d 187 54 [l0, l1, l2, l3, l4, .int x] (.int x :: st) h Q := xe_P_lo (ins := .iload 5) (len := 2) (by decide +kernel) rfl rfl
theorem xs_187_54 : xe_P d 187 54 ls st h Q = xe_P d 187 61 ls st h Q := xe_P_go (len := 3) (off := 7) (by decide +kernel) (by decide)
theorem xs_187_57 : xe_P d 187 57 [l0, l1, l2, l3, l4, .int x] st h Q = xe_P d 187 59 [l0, l1, l2, l3, l4, .int x] (.int x :: st) h Q := xe_P_lo (ins := .iload 5) (len := 2) (by decide +kernel) rfl rfl
theorem xs_187_59 : xe_P d 187 59 ls st h Q = xe_P d 187 60 ls (.int 1 :: st) h Q := xe_P_ar (ins := .iconst 1) (len := 1) (by decide +kernel) rfl
theorem xs_187_60 : xe_P d 187 60 ls (.int v :: .int x :: st) h Q = xe_P d 187 61 ls (.int (x + v) :: st) h Q := xe_P_ar (ins := .iadd) (len := 1) (by decide +kernel) rfl
theorem xs_187_61 : xe_P d 187 61 ls (.int x :: .int v :: .ref a :: st) h Q = ((xe_ob h a 8 ∧ xe_ix h a v) ∧ xe_P d 187 62 ls st (xe_sI h a v.toNatClampNeg x) Q) := xe_P_iast (by decide +kernel)
theorem xs_187_62 : xe_P d 187 62 [l0, l1, l2, l3, .int x, l5] st h Q = xe_P d 187 65 [l0, l1, l2, xe_cut l3, .int (x + (-1)), l5] st h Q := (xe_P_lo (ls' := [l0, l1, l2, xe_cut l3, .int (x + Int32.ofInt (-1)), l5]) (st' := st) (ins := .iinc 4 (-1)) (len := 3) (by decide +kernel) rfl rfl).trans (by rw [show Int32.ofInt (-1) = ((-1) : Int32) by decide])
theorem xs_187_65 : xe_P d 187 65 ls st h Q = xe_P d 187 12 ls st h Q := xe_P_go (len := 3) (off := (-53)) (by decide +kernel) (by decide)
theorem xs_187_68 : xe_P d 187 68 ls [] h Q = Q none h := xe_P_vreturn (by decide +kernel) rfl
theorem xs_187 : xe_C (d + 1) 187 [.ref a, .int x0] h Q = xe_P d 187 0 [.ref a, .int x0, .retAddr 0, .retAddr 0, .retAddr 0, .retAddr 0] [] h Q := xe_C_at (Nat.le_of_ble_eq_true rfl) rfl
theorem xs_188_0 : xe_P d 188 0 ls st h Q = xe_P d 188 1 ls (.int 1 :: st) h Q := xe_P_ar (ins := .iconst 1) (len := 1) (by decide +kernel) rfl
theorem xs_188_1 : xe_P d 188 1 [l0, l1, l2] (.int x :: st) h Q = xe_P d 188 2 [xe_cut l0, .int x, l2] st h Q := xe_P_lo (ins := .istore_n 1) (len := 1) (by decide +kernel) rfl rfl
theorem xs_188_2 : xe_P d 188 2 ls st h Q = xe_P d 188 3 ls (.int 0 :: st) h Q := xe_P_ar (ins := .iconst 0) (len := 1) (by decide +kernel) rfl
theorem xs_188_3 : xe_P d 188 3 [l0, l1, l2] (.int x :: st) h Q = xe_P d 188 4 [l0, xe_cut l1, .int x] st h Q := xe_P_lo (ins := .istore_n 2) (len := 1) (by decide +kernel) rfl rfl
theorem xs_188_4 : xe_P d 188 4 [l0, l1, .int x] st h Q = xe_P d 188 5 [l0, l1, .int x] (.int x :: st) h Q := xe_P_lo (ins := .iload_n 2) (len := 1) (by decide +kernel) rfl rfl
theorem xs_188_5 : xe_P d 188 5 [.ref a, l1, l2] st h Q = xe_P d 188 6 [.ref a, l1, l2] (.ref a :: st) h Q := xe_P_lo (ins := .aload_n 0) (len := 1) (by decide +kernel) rfl rfl
theorem xs_188_6 : xe_P d 188 6 ls (.ref a :: st) h Q = ((xe_w st ≤ 8 ∧ xe_ob h a 7) ∧ xe_C d 136 [.ref a] h (fun r h' => xe_P d 188 9 ls (r.toList ++ st) h' Q)) := xe_P_ivv (y := 188) (pc := 6) (z := 136) (i := 181) (vs := []) (by decide +kernel) (by decide +kernel) rfl (by decide +kernel)
theorem xs_188_9 : xe_P d 188 9 ls (.int v :: .int x :: st) h Q = (if v ≤ x then xe_P d 188 25 ls st h Q else xe_P d 188 12 ls st h Q) := xe_P_if (ins := .if_icmp .ge 16) (len := 3) (off := 16) (by decide +kernel) (by decide) rfl rfl rfl
theorem xs_188_12 : xe_P d 188 12 [l0, .int x, l2] st h Q = xe_P d 188 13 [l0, .int x, l2] (.int x :: st) h Q := xe_P_lo (ins := .iload_n 1) (len := 1) (by decide +kernel) rfl rfl
theorem xs_188_13 : xe_P d 188 13 [.ref a, l1, l2] st h Q = xe_P d 188 14 [.ref a, l1, l2] (.ref a :: st) h Q := xe_P_lo (ins := .aload_n 0) (len := 1) (by decide +kernel) rfl rfl
theorem xs_188_14 : xe_P d 188 14 ls (.ref a :: st) h Q = ((xe_w st ≤ 8 ∧ xe_ob h a 7) ∧ xe_C d 136 [.ref a] h (fun r h' => xe_P d 188 17 ls (r.toList ++ st) h' Q)) := xe_P_ivv (y := 188) (pc := 14) (z := 136) (i := 181) (vs := []) (by decide +kernel) (by decide +kernel) rfl (by decide +kernel)
theorem xs_188_17 : xe_P d 188 17 ls (.int v :: .int x :: st) h Q = xe_P d 188 18 ls (.int (x * v) :: st) h Q := xe_P_ar (ins := .imul) (len := 1) (by decide +kernel) rfl
theorem xs_188_18 : xe_P d 188 18 [l0, l1, l2] (.int x :: st) h Q = xe_P d 188 19 [xe_cut l0, .int x, l2] st h Q := xe_P_lo (ins := .istore_n 1) (len := 1) (by decide +kernel) rfl rfl
theorem xs_188_19 : xe_P d 188 19 [l0, l1, .int x] st h Q = xe_P d 188 22 [l0, xe_cut l1, .int (x + 1)] st h Q := xe_P_lo (ins := .iinc 2 1) (len := 3) (by decide +kernel) rfl rfl
theorem xs_188_22 : xe_P d 188 22 ls st h Q = xe_P d 188 4 ls st h Q := xe_P_go (len := 3) (off := (-18)) (by decide +kernel) (by decide)
theorem xs_188_25 : xe_P d 188 25 [l0, .int x, l2] st h Q = xe_P d 188 26 [l0, .int x, l2] (.int x :: st) h Q := xe_P_lo (ins := .iload_n 1) (len := 1) (by decide +kernel) rfl rfl
theorem xs_188_26 : xe_P d 188 26 ls [.int x] h Q = Q (some (.int x)) h := xe_P_ireturn (by decide +kernel) rfl
theorem xs_188 : xe_C (d + 1) 188 [.ref a] h Q = xe_P d 188 0 [.ref a, .retAddr 0, .retAddr 0] [] h Q := xe_C_at (Nat.le_of_ble_eq_true rfl) rfl
theorem xs_189_0 : xe_P d 189 0 [l0, .int x, l2] st h Q = xe_P d 189 1 [l0, .int x, l2] (.int x :: st) h Q := xe_P_lo (ins := .iload_n 1) (len := 1) (by decide +kernel) rfl rfl
theorem xs_189_1 : xe_P d 189 1 ls st h Q = xe_P d 189 3 ls (.int (-4) :: st) h Q := xe_P_ar (ins := .bipush (-4)) (len := 2) (by decide +kernel) rfl
theorem xs_189_3 : xe_P d 189 3 ls (.int v :: .int x :: st) h Q = (if x = v then xe_P d 189 15 ls st h Q else xe_P d 189 6 ls st h Q) := xe_P_if (ins := .if_icmp .eq 12) (len := 3) (off := 12) (by decide +kernel) (by decide) rfl rfl rfl
theorem xs_189_6 : xe_P d 189 6 [.ref a, l1, l2] st h Q = xe_P d 189 7 [.ref a, l1, l2] (.ref a :: st) h Q := xe_P_lo (ins := .aload_n 0) (len := 1) (by decide +kernel) rfl rfl
theorem xs_189_7 : xe_P d 189 7 ls (.ref a :: st) h Q = (xe_ob h a 7 ∧ xe_P d 189 10 ls (va_rf (xe_R h a 22) :: st) h Q) := xe_P_getR (i := 35) (by decide +kernel) (by decide +kernel) (by decide) rfl
theorem xs_189_10 : xe_P d 189 10 [l0, .int x, l2] st h Q = xe_P d 189 11 [l0, .int x, l2] (.int x :: st) h Q := xe_P_lo (ins := .iload_n 1) (len := 1) (by decide +kernel) rfl rfl
theorem xs_189_11 : xe_P d 189 11 ls (.int v :: .ref a :: st) h Q = ((xe_ia h a ∧ xe_ix h a v) ∧ xe_P d 189 12 ls (.int (xe_I h a v.toNatClampNeg) :: st) h Q) := xe_P_iald (by decide +kernel)
theorem xs_189_12 : xe_P d 189 12 ls (.int x :: st) h Q = (if x = 0 then xe_P d 189 15 ls st h Q else xe_P d 189 19 ls st h Q) := xe_P_ifn (ins := .ifCond .ne 7) (len := 3) (off := 7) (by decide +kernel) (by decide) rfl rfl rfl
theorem xs_189_15 : xe_P d 189 15 ls st h Q = xe_P d 189 16 ls (.int 1 :: st) h Q := xe_P_ar (ins := .iconst 1) (len := 1) (by decide +kernel) rfl
theorem xs_189_16 : xe_P d 189 16 ls st h Q = xe_P d 189 20 ls st h Q := xe_P_go (len := 3) (off := 4) (by decide +kernel) (by decide)
theorem xs_189_19 : xe_P d 189 19 ls st h Q = xe_P d 189 20 ls (.int 0 :: st) h Q := xe_P_ar (ins := .iconst 0) (len := 1) (by decide +kernel) rfl
theorem xs_189_20 : xe_P d 189 20 [l0, l1, l2] (.int x :: st) h Q = xe_P d 189 21 [l0, xe_cut l1, .int x] st h Q := xe_P_lo (ins := .istore_n 2) (len := 1) (by decide +kernel) rfl rfl
theorem xs_189_21 : xe_P d 189 21 [l0, .int x, l2] st h Q = xe_P d 189 22 [l0, .int x, l2] (.int x :: st) h Q := xe_P_lo (ins := .iload_n 1) (len := 1) (by decide +kernel) rfl rfl
theorem xs_189_22 : xe_P d 189 22 ls st h Q = xe_P d 189 24 ls (.int (-4) :: st) h Q := xe_P_ar (ins := .bipush (-4)) (len := 2) (by decide +kernel) rfl
theorem xs_189_24 : xe_P d 189 24 ls (.int v :: .int x :: st) h Q = (if x = v then xe_P d 189 55 ls st h Q else xe_P d 189 27 ls st h Q) := xe_P_if (ins := .if_icmp .eq 31) (len := 3) (off := 31) (by decide +kernel) (by decide) rfl rfl rfl
theorem xs_189_27 : xe_P d 189 27 [.ref a, l1, l2] st h Q = xe_P d 189 28 [.ref a, l1, l2] (.ref a :: st) h Q := xe_P_lo (ins := .aload_n 0) (len := 1) (by decide +kernel) rfl rfl
theorem xs_189_28 : xe_P d 189 28 ls (.ref a :: st) h Q = (xe_ob h a 7 ∧ xe_P d 189 31 ls (va_rf (xe_R h a 33) :: st) h Q) := xe_P_getR (i := 63) (by decide +kernel) (by decide +kernel) (by decide) rfl
theorem xs_189_31 : xe_P d 189 31 [l0, .int x, l2] st h Q = xe_P d 189 32 [l0, .int x, l2] (.int x :: st) h Q := xe_P_lo (ins := .iload_n 1) (len := 1) (by decide +kernel) rfl rfl
theorem xs_189_32 : xe_P d 189 32 ls (.int v :: .ref a :: st) h Q = ((xe_ia h a ∧ xe_ix h a v) ∧ xe_P d 189 33 ls (.int (xe_I h a v.toNatClampNeg) :: st) h Q) := xe_P_iald (by decide +kernel)
theorem xs_189_33 : xe_P d 189 33 ls st h Q = xe_P d 189 35 ls (.int (-4) :: st) h Q := xe_P_ar (ins := .bipush (-4)) (len := 2) (by decide +kernel) rfl
theorem xs_189_35 : xe_P d 189 35 ls (.int v :: .int x :: st) h Q = (if x = v then xe_P d 189 55 ls st h Q else xe_P d 189 38 ls st h Q) := xe_P_if (ins := .if_icmp .eq 20) (len := 3) (off := 20) (by decide +kernel) (by decide) rfl rfl rfl
theorem xs_189_38 : xe_P d 189 38 [.ref a, l1, l2] st h Q = xe_P d 189 39 [.ref a, l1, l2] (.ref a :: st) h Q := xe_P_lo (ins := .aload_n 0) (len := 1) (by decide +kernel) rfl rfl
theorem xs_189_39 : xe_P d 189 39 ls (.ref a :: st) h Q = (xe_ob h a 7 ∧ xe_P d 189 42 ls (va_rf (xe_R h a 22) :: st) h Q) := xe_P_getR (i := 35) (by decide +kernel) (by decide +kernel) (by decide) rfl
theorem xs_189_42 : xe_P d 189 42 [.ref a, l1, l2] st h Q = xe_P d 189 43 [.ref a, l1, l2] (.ref a :: st) h Q := xe_P_lo (ins := .aload_n 0) (len := 1) (by decide +kernel) rfl rfl
theorem xs_189_43 : xe_P d 189 43 ls (.ref a :: st) h Q = (xe_ob h a 7 ∧ xe_P d 189 46 ls (va_rf (xe_R h a 33) :: st) h Q) := xe_P_getR (i := 63) (by decide +kernel) (by decide +kernel) (by decide) rfl
theorem xs_189_46 : xe_P d 189 46 [l0, .int x, l2] st h Q = xe_P d 189 47 [l0, .int x, l2] (.int x :: st) h Q := xe_P_lo (ins := .iload_n 1) (len := 1) (by decide +kernel) rfl rfl
theorem xs_189_47 : xe_P d 189 47 ls (.int v :: .ref a :: st) h Q = ((xe_ia h a ∧ xe_ix h a v) ∧ xe_P d 189 48 ls (.int (xe_I h a v.toNatClampNeg) :: st) h Q) := xe_P_iald (by decide +kernel)
theorem xs_189_48 : xe_P d 189 48 [.ref a, l1, l2] st h Q = xe_P d 189 49 [.ref a, l1, l2] (.ref a :: st) h Q := xe_P_lo (ins := .aload_n 0) (len := 1) (by decide +kernel) rfl rfl
theorem xs_189_49 : xe_P d 189 49 ls (.ref a :: st) h Q = ((xe_w st ≤ 8 ∧ xe_ob h a 7) ∧ xe_C d 142 [.ref a] h (fun r h' => xe_P d 189 52 ls (r.toList ++ st) h' Q)) := xe_P_ivv (y := 189) (pc := 49) (z := 142) (i := 188) (vs := []) (by decide +kernel) (by decide +kernel) rfl (by decide +kernel)
theorem xs_189_52 : xe_P d 189 52 ls st h Q = xe_P d 189 53 ls (.int 1 :: st) h Q := xe_P_ar (ins := .iconst 1) (len := 1) (by decide +kernel) rfl
theorem xs_189_53 : xe_P d 189 53 ls (.int v :: .int x :: st) h Q = xe_P d 189 54 ls (.int (x + v) :: st) h Q := xe_P_ar (ins := .iadd) (len := 1) (by decide +kernel) rfl
theorem xs_189_54 : xe_P d 189 54 ls (.int x :: .int v :: .ref a :: st) h Q = ((xe_ob h a 8 ∧ xe_ix h a v) ∧ xe_P d 189 55 ls st (xe_sI h a v.toNatClampNeg x) Q) := xe_P_iast (by decide +kernel)
theorem xs_189_55 : xe_P d 189 55 [.ref a, l1, l2] st h Q = xe_P d 189 56 [.ref a, l1, l2] (.ref a :: st) h Q := xe_P_lo (ins := .aload_n 0) (len := 1) (by decide +kernel) rfl rfl
theorem xs_189_56 : xe_P d 189 56 ls (.ref a :: st) h Q = ((xe_w st ≤ 8 ∧ xe_ob h a 7) ∧ xe_C d 151 [.ref a] h (fun r h' => xe_P d 189 59 ls (r.toList ++ st) h' Q)) := xe_P_ivv (y := 189) (pc := 56) (z := 151) (i := 223) (vs := []) (by decide +kernel) (by decide +kernel) rfl (by decide +kernel)
theorem xs_189_59 : xe_P d 189 59 [l0, l1, .int x] st h Q = xe_P d 189 60 [l0, l1, .int x] (.int x :: st) h Q := xe_P_lo (ins := .iload_n 2) (len := 1) (by decide +kernel) rfl rfl
theorem xs_189_60 : xe_P d 189 60 ls [.int x] h Q = ((x = 0 ∨ x = 1) ∧ Q (some (.int x)) h) := xe_P_zreturn (by decide +kernel) rfl
theorem xs_189 : xe_C (d + 1) 189 [.ref a, .int x0] h Q = xe_P d 189 0 [.ref a, .int x0, .retAddr 0] [] h Q := xe_C_at (Nat.le_of_ble_eq_true rfl) rfl
theorem xs_190_0 : xe_P d 190 0 [.ref a, l1] st h Q = xe_P d 190 1 [.ref a, l1] (.ref a :: st) h Q := xe_P_lo (ins := .aload_n 0) (len := 1) (by decide +kernel) rfl rfl
theorem xs_190_1 : xe_P d 190 1 ls st h Q = xe_P d 190 2 ls (.int 0 :: st) h Q := xe_P_ar (ins := .iconst 0) (len := 1) (by decide +kernel) rfl
theorem xs_190_2 : xe_P d 190 2 ls (v0 :: .ref a :: st) h Q = ((xe_w st ≤ 8 ∧ xe_ob h a 7) ∧ xe_C d 146 [.ref a, v0] h (fun r h' => xe_P d 190 5 ls (r.toList ++ st) h' Q)) := xe_P_ivv (y := 190) (pc := 2) (z := 146) (i := 238) (vs := [v0]) (by decide +kernel) (by decide +kernel) rfl (by decide +kernel)
theorem xs_190_5 : xe_P d 190 5 ls st h Q = xe_P d 190 6 ls (.int 0 :: st) h Q := xe_P_ar (ins := .iconst 0) (len := 1) (by decide +kernel) rfl
theorem xs_190_6 : xe_P d 190 6 [l0, l1] (.int x :: st) h Q = xe_P d 190 7 [xe_cut l0, .int x] st h Q := xe_P_lo (ins := .istore_n 1) (len := 1) (by decide +kernel) rfl rfl
theorem xs_190_7 : xe_P d 190 7 [l0, .int x] st h Q = xe_P d 190 8 [l0, .int x] (.int x :: st) h Q := xe_P_lo (ins := .iload_n 1) (len := 1) (by decide +kernel) rfl rfl
theorem xs_190_8 : xe_P d 190 8 [.ref a, l1] st h Q = xe_P d 190 9 [.ref a, l1] (.ref a :: st) h Q := xe_P_lo (ins := .aload_n 0) (len := 1) (by decide +kernel) rfl rfl
theorem xs_190_9 : xe_P d 190 9 ls (.ref a :: st) h Q = (xe_ob h a 7 ∧ xe_P d 190 12 ls (.int (xe_I h a 32) :: st) h Q) := xe_P_getI (i := 178) (by decide +kernel) (by decide +kernel) (by decide) rfl
theorem xs_190_12 : xe_P d 190 12 ls (.int v :: .int x :: st) h Q = (if v ≤ x then xe_P d 190 83 ls st h Q else xe_P d 190 15 ls st h Q) := xe_P_if (ins := .if_icmp .ge 71) (len := 3) (off := 71) (by decide +kernel) (by decide) rfl rfl rfl
theorem xs_190_15 : xe_P d 190 15 [.ref a, l1] st h Q = xe_P d 190 16 [.ref a, l1] (.ref a :: st) h Q := xe_P_lo (ins := .aload_n 0) (len := 1) (by decide +kernel) rfl rfl
theorem xs_190_16 : xe_P d 190 16 [.ref a, l1] st h Q = xe_P d 190 17 [.ref a, l1] (.ref a :: st) h Q := xe_P_lo (ins := .aload_n 0) (len := 1) (by decide +kernel) rfl rfl
theorem xs_190_17 : xe_P d 190 17 ls (.ref a :: st) h Q = (xe_ob h a 7 ∧ xe_P d 190 20 ls (va_rf (xe_R h a 31) :: st) h Q) := xe_P_getR (i := 60) (by decide +kernel) (by decide +kernel) (by decide) rfl
theorem xs_190_20 : xe_P d 190 20 ls st h Q = xe_P d 190 21 ls (.int 3 :: st) h Q := xe_P_ar (ins := .iconst 3) (len := 1) (by decide +kernel) rfl
theorem xs_190_21 : xe_P d 190 21 [l0, .int x] st h Q = xe_P d 190 22 [l0, .int x] (.int x :: st) h Q := xe_P_lo (ins := .iload_n 1) (len := 1) (by decide +kernel) rfl rfl
theorem xs_190_22 : xe_P d 190 22 ls (.int v :: .int x :: st) h Q = xe_P d 190 23 ls (.int (x * v) :: st) h Q := xe_P_ar (ins := .imul) (len := 1) (by decide +kernel) rfl
theorem xs_190_23 : xe_P d 190 23 ls (.int v :: .ref a :: st) h Q = ((xe_ia h a ∧ xe_ix h a v) ∧ xe_P d 190 24 ls (.int (xe_I h a v.toNatClampNeg) :: st) h Q) := xe_P_iald (by decide +kernel)
theorem xs_190_24 : xe_P d 190 24 ls (v0 :: .ref a :: st) h Q = ((xe_w st ≤ 8 ∧ xe_ob h a 7) ∧ xe_C d 189 [.ref a, v0] h (fun r h' => xe_P d 190 27 ls (r.toList ++ st) h' Q)) := xe_P_ivv (y := 190) (pc := 24) (z := 189) (i := 302) (vs := [v0]) (by decide +kernel) (by decide +kernel) rfl (by decide +kernel)
theorem xs_190_27 : xe_P d 190 27 ls (.int x :: st) h Q = (if x = 0 then xe_P d 190 75 ls st h Q else xe_P d 190 30 ls st h Q) := xe_P_if (ins := .ifCond .eq 48) (len := 3) (off := 48) (by decide +kernel) (by decide) rfl rfl rfl
theorem xs_190_30 : xe_P d 190 30 [.ref a, l1] st h Q = xe_P d 190 31 [.ref a, l1] (.ref a :: st) h Q := xe_P_lo (ins := .aload_n 0) (len := 1) (by decide +kernel) rfl rfl
theorem xs_190_31 : xe_P d 190 31 ls (.ref a :: st) h Q = (xe_ob h a 7 ∧ xe_P d 190 34 ls (va_rf (xe_R h a 22) :: st) h Q) := xe_P_getR (i := 35) (by decide +kernel) (by decide +kernel) (by decide) rfl
theorem xs_190_34 : xe_P d 190 34 [.ref a, l1] st h Q = xe_P d 190 35 [.ref a, l1] (.ref a :: st) h Q := xe_P_lo (ins := .aload_n 0) (len := 1) (by decide +kernel) rfl rfl
theorem xs_190_35 : xe_P d 190 35 ls (.ref a :: st) h Q = (xe_ob h a 7 ∧ xe_P d 190 38 ls (va_rf (xe_R h a 31) :: st) h Q) := xe_P_getR (i := 60) (by decide +kernel) (by decide +kernel) (by decide) rfl
theorem xs_190_38 : xe_P d 190 38 ls st h Q = xe_P d 190 39 ls (.int 3 :: st) h Q := xe_P_ar (ins := .iconst 3) (len := 1) (by decide +kernel) rfl
theorem xs_190_39 : xe_P d 190 39 [l0, .int x] st h Q = xe_P d 190 40 [l0, .int x] (.int x :: st) h Q := xe_P_lo (ins := .iload_n 1) (len := 1) (by decide +kernel) rfl rfl
theorem xs_190_40 : xe_P d 190 40 ls (.int v :: .int x :: st) h Q = xe_P d 190 41 ls (.int (x * v) :: st) h Q := xe_P_ar (ins := .imul) (len := 1) (by decide +kernel) rfl
theorem xs_190_41 : xe_P d 190 41 ls st h Q = xe_P d 190 42 ls (.int 1 :: st) h Q := xe_P_ar (ins := .iconst 1) (len := 1) (by decide +kernel) rfl
theorem xs_190_42 : xe_P d 190 42 ls (.int v :: .int x :: st) h Q = xe_P d 190 43 ls (.int (x + v) :: st) h Q := xe_P_ar (ins := .iadd) (len := 1) (by decide +kernel) rfl
theorem xs_190_43 : xe_P d 190 43 ls (.int v :: .ref a :: st) h Q = ((xe_ia h a ∧ xe_ix h a v) ∧ xe_P d 190 44 ls (.int (xe_I h a v.toNatClampNeg) :: st) h Q) := xe_P_iald (by decide +kernel)
theorem xs_190_44 : xe_P d 190 44 ls (.int v :: .ref a :: st) h Q = ((xe_ia h a ∧ xe_ix h a v) ∧ xe_P d 190 45 ls (.int (xe_I h a v.toNatClampNeg) :: st) h Q) := xe_P_iald (by decide +kernel)
theorem xs_190_45 : xe_P d 190 45 ls (.int x :: st) h Q = (if x = 0 then xe_P d 190 48 ls st h Q else xe_P d 190 52 ls st h Q) := xe_P_ifn (ins := .ifCond .ne 7) (len := 3) (off := 7) (by decide +kernel) (by decide) rfl rfl rfl
theorem xs_190_48 : xe_P d 190 48 ls st h Q = xe_P d 190 49 ls (.int 1 :: st) h Q := xe_P_ar (ins := .iconst 1) (len := 1) (by decide +kernel) rfl
theorem xs_190_49 : xe_P d 190 49 ls st h Q = xe_P d 190 53 ls st h Q := xe_P_go (len := 3) (off := 4) (by decide +kernel) (by decide)
theorem xs_190_52 : xe_P d 190 52 ls st h Q = xe_P d 190 53 ls (.int 0 :: st) h Q := xe_P_ar (ins := .iconst 0) (len := 1) (by decide +kernel) rfl
theorem xs_190_53 : xe_P d 190 53 [.ref a, l1] st h Q = xe_P d 190 54 [.ref a, l1] (.ref a :: st) h Q := xe_P_lo (ins := .aload_n 0) (len := 1) (by decide +kernel) rfl rfl
theorem xs_190_54 : xe_P d 190 54 ls (.ref a :: st) h Q = (xe_ob h a 7 ∧ xe_P d 190 57 ls (va_rf (xe_R h a 31) :: st) h Q) := xe_P_getR (i := 60) (by decide +kernel) (by decide +kernel) (by decide) rfl
theorem xs_190_57 : xe_P d 190 57 ls st h Q = xe_P d 190 58 ls (.int 3 :: st) h Q := xe_P_ar (ins := .iconst 3) (len := 1) (by decide +kernel) rfl
theorem xs_190_58 : xe_P d 190 58 [l0, .int x] st h Q = xe_P d 190 59 [l0, .int x] (.int x :: st) h Q := xe_P_lo (ins := .iload_n 1) (len := 1) (by decide +kernel) rfl rfl
theorem xs_190_59 : xe_P d 190 59 ls (.int v :: .int x :: st) h Q = xe_P d 190 60 ls (.int (x * v) :: st) h Q := xe_P_ar (ins := .imul) (len := 1) (by decide +kernel) rfl
theorem xs_190_60 : xe_P d 190 60 ls st h Q = xe_P d 190 61 ls (.int 2 :: st) h Q := xe_P_ar (ins := .iconst 2) (len := 1) (by decide +kernel) rfl
theorem xs_190_61 : xe_P d 190 61 ls (.int v :: .int x :: st) h Q = xe_P d 190 62 ls (.int (x + v) :: st) h Q := xe_P_ar (ins := .iadd) (len := 1) (by decide +kernel) rfl
theorem xs_190_62 : xe_P d 190 62 ls (.int v :: .ref a :: st) h Q = ((xe_ia h a ∧ xe_ix h a v) ∧ xe_P d 190 63 ls (.int (xe_I h a v.toNatClampNeg) :: st) h Q) := xe_P_iald (by decide +kernel)
theorem xs_190_63 : xe_P d 190 63 ls st h Q = xe_P d 190 64 ls (.int 1 :: st) h Q := xe_P_ar (ins := .iconst 1) (len := 1) (by decide +kernel) rfl
theorem xs_190_64 : xe_P d 190 64 ls (.int v :: .int x :: st) h Q = (if x = v then xe_P d 190 67 ls st h Q else xe_P d 190 71 ls st h Q) := xe_P_ifn (ins := .if_icmp .ne 7) (len := 3) (off := 7) (by decide +kernel) (by decide) rfl rfl rfl
theorem xs_190_67 : xe_P d 190 67 ls st h Q = xe_P d 190 68 ls (.int 1 :: st) h Q := xe_P_ar (ins := .iconst 1) (len := 1) (by decide +kernel) rfl
theorem xs_190_68 : xe_P d 190 68 ls st h Q = xe_P d 190 72 ls st h Q := xe_P_go (len := 3) (off := 4) (by decide +kernel) (by decide)
theorem xs_190_71 : xe_P d 190 71 ls st h Q = xe_P d 190 72 ls (.int 0 :: st) h Q := xe_P_ar (ins := .iconst 0) (len := 1) (by decide +kernel) rfl
theorem xs_190_72 : xe_P d 190 72 ls (.int v :: .int x :: st) h Q = (if x = v then xe_P d 190 77 ls st h Q else xe_P d 190 75 ls st h Q) := xe_P_if (ins := .if_icmp .eq 5) (len := 3) (off := 5) (by decide +kernel) (by decide) rfl rfl rfl
theorem xs_190_75 : xe_P d 190 75 ls st h Q = xe_P d 190 76 ls (.int 0 :: st) h Q := xe_P_ar (ins := .iconst 0) (len := 1) (by decide +kernel) rfl
theorem xs_190_76 : xe_P d 190 76 ls [.int x] h Q = ((x = 0 ∨ x = 1) ∧ Q (some (.int x)) h) := xe_P_zreturn (by decide +kernel) rfl
theorem xs_190_77 : xe_P d 190 77 [l0, .int x] st h Q = xe_P d 190 80 [xe_cut l0, .int (x + 1)] st h Q := xe_P_lo (ins := .iinc 1 1) (len := 3) (by decide +kernel) rfl rfl
theorem xs_190_80 : xe_P d 190 80 ls st h Q = xe_P d 190 7 ls st h Q := xe_P_go (len := 3) (off := (-73)) (by decide +kernel) (by decide)
theorem xs_190_83 : xe_P d 190 83 ls st h Q = xe_P d 190 84 ls (.int 1 :: st) h Q := xe_P_ar (ins := .iconst 1) (len := 1) (by decide +kernel) rfl
theorem xs_190_84 : xe_P d 190 84 ls [.int x] h Q = ((x = 0 ∨ x = 1) ∧ Q (some (.int x)) h) := xe_P_zreturn (by decide +kernel) rfl
theorem xs_190 : xe_C (d + 1) 190 [.ref a] h Q = xe_P d 190 0 [.ref a, .retAddr 0] [] h Q := xe_C_at (Nat.le_of_ble_eq_true rfl) rfl
theorem xs_191_0 : xe_P d 191 0 [l0, .int x, l2, l3, l4] st h Q = xe_P d 191 1 [l0, .int x, l2, l3, l4] (.int x :: st) h Q := xe_P_lo (ins := .iload_n 1) (len := 1) (by decide +kernel) rfl rfl
theorem xs_191_1 : xe_P d 191 1 ls (.int x :: st) h Q = (if x = 0 then xe_P d 191 25 ls st h Q else xe_P d 191 4 ls st h Q) := xe_P_if (ins := .ifCond .eq 24) (len := 3) (off := 24) (by decide +kernel) (by decide) rfl rfl rfl
theorem xs_191_4 : xe_P d 191 4 [l0, .int x, l2, l3, l4] st h Q = xe_P d 191 5 [l0, .int x, l2, l3, l4] (.int x :: st) h Q := xe_P_lo (ins := .iload_n 1) (len := 1) (by decide +kernel) rfl rfl
theorem xs_191_5 : xe_P d 191 5 ls (.int x :: st) h Q = xe_P d 191 6 ls (.long x.toInt64 :: st) h Q := xe_P_ar (ins := .i2l) (len := 1) (by decide +kernel) rfl
theorem xs_191_6 : xe_P d 191 6 ls st h Q = xe_P d 191 9 ls (.long 10 :: st) h Q := xe_P_ldc2 (j := 305) (by decide +kernel) (by decide +kernel)
theorem xs_191_9 : xe_P d 191 9 ls st h Q = xe_P d 191 11 ls (.int 9 :: st) h Q := xe_P_ar (ins := .bipush 9) (len := 2) (by decide +kernel) rfl
theorem xs_191_11 : xe_P d 191 11 [.ref a, l1, l2, l3, l4] st h Q = xe_P d 191 12 [.ref a, l1, l2, l3, l4] (.ref a :: st) h Q := xe_P_lo (ins := .aload_n 0) (len := 1) (by decide +kernel) rfl rfl
theorem xs_191_12 : xe_P d 191 12 ls (.ref a :: st) h Q = ((xe_w st ≤ 8 ∧ xe_ob h a 7) ∧ xe_C d 136 [.ref a] h (fun r h' => xe_P d 191 15 ls (r.toList ++ st) h' Q)) := xe_P_ivv (y := 191) (pc := 12) (z := 136) (i := 181) (vs := []) (by decide +kernel) (by decide +kernel) rfl (by decide +kernel)
theorem xs_191_15 : xe_P d 191 15 ls (.int v :: .int x :: st) h Q = xe_P d 191 16 ls (.int (x + v) :: st) h Q := xe_P_ar (ins := .iadd) (len := 1) (by decide +kernel) rfl
theorem xs_191_16 : xe_P d 191 16 ls (.int x :: st) h Q = xe_P d 191 17 ls (.long x.toInt64 :: st) h Q := xe_P_ar (ins := .i2l) (len := 1) (by decide +kernel) rfl
theorem xs_191_17 : xe_P d 191 17 ls (v2 :: v1 :: v0 :: st) h Q = (xe_w st ≤ 8 ∧ xe_C d 120 [v0, v1, v2] h (fun r h' => xe_P d 191 20 ls (r.toList ++ st) h' Q)) := xe_P_ivs (y := 191) (pc := 17) (z := 120) (i := 88) (vs := [v2, v1, v0]) (by decide +kernel) (by decide +kernel) rfl
theorem xs_191_20 : xe_P d 191 20 ls (.int x :: st) h Q = (if x = 0 then xe_P d 191 23 ls st h Q else xe_P d 191 25 ls st h Q) := xe_P_ifn (ins := .ifCond .ne 5) (len := 3) (off := 5) (by decide +kernel) (by decide) rfl rfl rfl
theorem xs_191_23 : xe_P d 191 23 ls st h Q = xe_P d 191 24 ls (.int (-1) :: st) h Q := xe_P_ar (ins := .iconst (-1)) (len := 1) (by decide +kernel) rfl
theorem xs_191_24 : xe_P d 191 24 ls [.int x] h Q = Q (some (.int x)) h := xe_P_ireturn (by decide +kernel) rfl
theorem xs_191_25 : xe_P d 191 25 ls st h Q = xe_P d 191 26 ls (.int 0 :: st) h Q := xe_P_ar (ins := .iconst 0) (len := 1) (by decide +kernel) rfl
theorem xs_191_26 : xe_P d 191 26 [l0, l1, l2, l3, l4] (.int x :: st) h Q = xe_P d 191 27 [l0, xe_cut l1, .int x, l3, l4] st h Q := xe_P_lo (ins := .istore_n 2) (len := 1) (by decide +kernel) rfl rfl
theorem xs_191_27 : xe_P d 191 27 ls st h Q = xe_P d 191 29 ls (.int (-4) :: st) h Q := xe_P_ar (ins := .bipush (-4)) (len := 2) (by decide +kernel) rfl
theorem xs_191_29 : xe_P d 191 29 [l0, l1, l2, l3, l4] (.int x :: st) h Q = xe_P d 191 30 [l0, l1, xe_cut l2, .int x, l4] st h Q := xe_P_lo (ins := .istore_n 3) (len := 1) (by decide +kernel) rfl rfl
theorem xs_191_30 : xe_P d 191 30 ls st h Q = xe_P d 191 31 ls (.int 0 :: st) h Q := xe_P_ar (ins := .iconst 0) (len := 1) (by decide +kernel) rfl
theorem xs_191_31 : xe_P d 191 31 [l0, l1, l2, l3, l4] (.int x :: st) h Q = xe_P d 191 33 [l0, l1, l2, xe_cut l3, .int x] st h Q := xe_P_lo (ins := .istore 4) (len := 2) (by decide +kernel) rfl rfl
theorem xs_191_33 : xe_P d 191 33 [l0, l1, l2, l3, .int x] st h Q = xe_P d 191 35 [l0, l1, l2, l3, .int x] (.int x :: st) h Q := xe_P_lo (ins := .iload 4) (len := 2) (by decide +kernel) rfl rfl
theorem xs_191_35 : xe_P d 191 35 [.ref a, l1, l2, l3, l4] st h Q = xe_P d 191 36 [.ref a, l1, l2, l3, l4] (.ref a :: st) h Q := xe_P_lo (ins := .aload_n 0) (len := 1) (by decide +kernel) rfl rfl
theorem xs_191_36 : xe_P d 191 36 ls (.ref a :: st) h Q = ((xe_w st ≤ 8 ∧ xe_ob h a 7) ∧ xe_C d 188 [.ref a] h (fun r h' => xe_P d 191 39 ls (r.toList ++ st) h' Q)) := xe_P_ivv (y := 191) (pc := 36) (z := 188) (i := 307) (vs := []) (by decide +kernel) (by decide +kernel) rfl (by decide +kernel)
theorem xs_191_39 : xe_P d 191 39 ls (.int v :: .int x :: st) h Q = (if v ≤ x then xe_P d 191 75 ls st h Q else xe_P d 191 42 ls st h Q) := xe_P_if (ins := .if_icmp .ge 36) (len := 3) (off := 36) (by decide +kernel) (by decide) rfl rfl rfl
theorem xs_191_42 : xe_P d 191 42 [.ref a, l1, l2, l3, l4] st h Q = xe_P d 191 43 [.ref a, l1, l2, l3, l4] (.ref a :: st) h Q := xe_P_lo (ins := .aload_n 0) (len := 1) (by decide +kernel) rfl rfl
theorem xs_191_43 : xe_P d 191 43 [l0, l1, l2, l3, .int x] st h Q = xe_P d 191 45 [l0, l1, l2, l3, .int x] (.int x :: st) h Q := xe_P_lo (ins := .iload 4) (len := 2) (by decide +kernel) rfl rfl
theorem xs_191_45 : xe_P d 191 45 ls (v0 :: .ref a :: st) h Q = ((xe_w st ≤ 8 ∧ xe_ob h a 7) ∧ xe_C d 187 [.ref a, v0] h (fun r h' => xe_P d 191 48 ls (r.toList ++ st) h' Q)) := xe_P_ivv (y := 191) (pc := 45) (z := 187) (i := 310) (vs := [v0]) (by decide +kernel) (by decide +kernel) rfl (by decide +kernel)
theorem xs_191_48 : xe_P d 191 48 [.ref a, l1, l2, l3, l4] st h Q = xe_P d 191 49 [.ref a, l1, l2, l3, l4] (.ref a :: st) h Q := xe_P_lo (ins := .aload_n 0) (len := 1) (by decide +kernel) rfl rfl
theorem xs_191_49 : xe_P d 191 49 ls (.ref a :: st) h Q = ((xe_w st ≤ 8 ∧ xe_ob h a 7) ∧ xe_C d 190 [.ref a] h (fun r h' => xe_P d 191 52 ls (r.toList ++ st) h' Q)) := xe_P_ivv (y := 191) (pc := 49) (z := 190) (i := 313) (vs := []) (by decide +kernel) (by decide +kernel) rfl (by decide +kernel)
theorem xs_191_52 : xe_P d 191 52 ls (.int x :: st) h Q = (if x = 0 then xe_P d 191 69 ls st h Q else xe_P d 191 55 ls st h Q) := xe_P_if (ins := .ifCond .eq 17) (len := 3) (off := 17) (by decide +kernel) (by decide) rfl rfl rfl
theorem xs_191_55 : xe_P d 191 55 [l0, l1, .int x, l3, l4] st h Q = xe_P d 191 56 [l0, l1, .int x, l3, l4] (.int x :: st) h Q := xe_P_lo (ins := .iload_n 2) (len := 1) (by decide +kernel) rfl rfl
theorem xs_191_56 : xe_P d 191 56 ls (.int x :: st) h Q = (if x = 0 then xe_P d 191 59 ls st h Q else xe_P d 191 64 ls st h Q) := xe_P_ifn (ins := .ifCond .ne 8) (len := 3) (off := 8) (by decide +kernel) (by decide) rfl rfl rfl
theorem xs_191_59 : xe_P d 191 59 [l0, l1, l2, l3, .int x] st h Q = xe_P d 191 61 [l0, l1, l2, l3, .int x] (.int x :: st) h Q := xe_P_lo (ins := .iload 4) (len := 2) (by decide +kernel) rfl rfl
theorem xs_191_61 : xe_P d 191 61 ls st h Q = xe_P d 191 65 ls st h Q := xe_P_go (len := 3) (off := 4) (by decide +kernel) (by decide)
theorem xs_191_64 : xe_P d 191 64 [l0, l1, l2, .int x, l4] st h Q = xe_P d 191 65 [l0, l1, l2, .int x, l4] (.int x :: st) h Q := xe_P_lo (ins := .iload_n 3) (len := 1) (by decide +kernel) rfl rfl
theorem xs_191_65 : xe_P d 191 65 [l0, l1, l2, l3, l4] (.int x :: st) h Q = xe_P d 191 66 [l0, l1, xe_cut l2, .int x, l4] st h Q := xe_P_lo (ins := .istore_n 3) (len := 1) (by decide +kernel) rfl rfl
theorem xs_191_66 : xe_P d 191 66 [l0, l1, .int x, l3, l4] st h Q = xe_P d 191 69 [l0, xe_cut l1, .int (x + 1), l3, l4] st h Q := xe_P_lo (ins := .iinc 2 1) (len := 3) (by decide +kernel) rfl rfl
theorem xs_191_69 : xe_P d 191 69 [l0, l1, l2, l3, .int x] st h Q = xe_P d 191 72 [l0, l1, l2, xe_cut l3, .int (x + 1)] st h Q := xe_P_lo (ins := .iinc 4 1) (len := 3) (by decide +kernel) rfl rfl
theorem xs_191_72 : xe_P d 191 72 ls st h Q = xe_P d 191 33 ls st h Q := xe_P_go (len := 3) (off := (-39)) (by decide +kernel) (by decide)
theorem xs_191_75 : xe_P d 191 75 [l0, .int x, l2, l3, l4] st h Q = xe_P d 191 76 [l0, .int x, l2, l3, l4] (.int x :: st) h Q := xe_P_lo (ins := .iload_n 1) (len := 1) (by decide +kernel) rfl rfl
theorem xs_191_76 : xe_P d 191 76 ls (.int x :: st) h Q = (if x = 0 then xe_P d 191 85 ls st h Q else xe_P d 191 79 ls st h Q) := xe_P_if (ins := .ifCond .eq 9) (len := 3) (off := 9) (by decide +kernel) (by decide) rfl rfl rfl
theorem xs_191_79 : xe_P d 191 79 [l0, l1, l2, .int x, l4] st h Q = xe_P d 191 80 [l0, l1, l2, .int x, l4] (.int x :: st) h Q := xe_P_lo (ins := .iload_n 3) (len := 1) (by decide +kernel) rfl rfl
theorem xs_191_80 : xe_P d 191 80 ls st h Q = xe_P d 191 82 ls (.int (-4) :: st) h Q := xe_P_ar (ins := .bipush (-4)) (len := 2) (by decide +kernel) rfl
theorem xs_191_82 : xe_P d 191 82 ls (.int v :: .int x :: st) h Q = (if x = v then xe_P d 191 85 ls st h Q else xe_P d 191 96 ls st h Q) := xe_P_ifn (ins := .if_icmp .ne 14) (len := 3) (off := 14) (by decide +kernel) (by decide) rfl rfl rfl
theorem xs_191_85 : xe_P d 191 85 [l0, .int x, l2, l3, l4] st h Q = xe_P d 191 86 [l0, .int x, l2, l3, l4] (.int x :: st) h Q := xe_P_lo (ins := .iload_n 1) (len := 1) (by decide +kernel) rfl rfl
theorem xs_191_86 : xe_P d 191 86 ls (.int x :: st) h Q = (if x = 0 then xe_P d 191 89 ls st h Q else xe_P d 191 93 ls st h Q) := xe_P_ifn (ins := .ifCond .ne 7) (len := 3) (off := 7) (by decide +kernel) (by decide) rfl rfl rfl
theorem xs_191_89 : xe_P d 191 89 [l0, l1, .int x, l3, l4] st h Q = xe_P d 191 90 [l0, l1, .int x, l3, l4] (.int x :: st) h Q := xe_P_lo (ins := .iload_n 2) (len := 1) (by decide +kernel) rfl rfl
theorem xs_191_90 : xe_P d 191 90 ls st h Q = xe_P d 191 95 ls st h Q := xe_P_go (len := 3) (off := 5) (by decide +kernel) (by decide)
theorem xs_191_93 : xe_P d 191 93 ls st h Q = xe_P d 191 95 ls (.int (-4) :: st) h Q := xe_P_ar (ins := .bipush (-4)) (len := 2) (by decide +kernel) rfl
theorem xs_191_95 : xe_P d 191 95 ls [.int x] h Q = Q (some (.int x)) h := xe_P_ireturn (by decide +kernel) rfl
theorem xs_191_96 : xe_P d 191 96 [.ref a, l1, l2, l3, l4] st h Q = xe_P d 191 97 [.ref a, l1, l2, l3, l4] (.ref a :: st) h Q := xe_P_lo (ins := .aload_n 0) (len := 1) (by decide +kernel) rfl rfl
theorem xs_191_97 : xe_P d 191 97 [l0, l1, l2, .int x, l4] st h Q = xe_P d 191 98 [l0, l1, l2, .int x, l4] (.int x :: st) h Q := xe_P_lo (ins := .iload_n 3) (len := 1) (by decide +kernel) rfl rfl
theorem xs_191_98 : xe_P d 191 98 ls (v0 :: .ref a :: st) h Q = ((xe_w st ≤ 8 ∧ xe_ob h a 7) ∧ xe_C d 187 [.ref a, v0] h (fun r h' => xe_P d 191 101 ls (r.toList ++ st) h' Q)) := xe_P_ivv (y := 191) (pc := 98) (z := 187) (i := 310) (vs := [v0]) (by decide +kernel) (by decide +kernel) rfl (by decide +kernel)
theorem xs_191_101 : xe_P d 191 101 [.ref a, l1, l2, l3, l4] st h Q = xe_P d 191 102 [.ref a, l1, l2, l3, l4] (.ref a :: st) h Q := xe_P_lo (ins := .aload_n 0) (len := 1) (by decide +kernel) rfl rfl
theorem xs_191_102 : xe_P d 191 102 ls (.ref a :: st) h Q = (xe_ob h a 7 ∧ xe_P d 191 105 ls (va_rf (xe_R h a 33) :: st) h Q) := xe_P_getR (i := 63) (by decide +kernel) (by decide +kernel) (by decide) rfl
theorem xs_191_105 : xe_P d 191 105 [l0, .int x, l2, l3, l4] st h Q = xe_P d 191 106 [l0, .int x, l2, l3, l4] (.int x :: st) h Q := xe_P_lo (ins := .iload_n 1) (len := 1) (by decide +kernel) rfl rfl
theorem xs_191_106 : xe_P d 191 106 ls st h Q = xe_P d 191 108 ls (.int 10 :: st) h Q := xe_P_ar (ins := .bipush 10) (len := 2) (by decide +kernel) rfl
theorem xs_191_108 : xe_P d 191 108 ls (.int v :: .int x :: st) h Q = xe_P d 191 109 ls (.int (x - v) :: st) h Q := xe_P_ar (ins := .isub) (len := 1) (by decide +kernel) rfl
theorem xs_191_109 : xe_P d 191 109 ls (.int v :: .ref a :: st) h Q = ((xe_ia h a ∧ xe_ix h a v) ∧ xe_P d 191 110 ls (.int (xe_I h a v.toNatClampNeg) :: st) h Q) := xe_P_iald (by decide +kernel)
theorem xs_191_110 : xe_P d 191 110 ls [.int x] h Q = Q (some (.int x)) h := xe_P_ireturn (by decide +kernel) rfl
theorem xs_191 : xe_C (d + 1) 191 [.ref a, .int x0] h Q = xe_P d 191 0 [.ref a, .int x0, .retAddr 0, .retAddr 0, .retAddr 0] [] h Q := xe_C_at (Nat.le_of_ble_eq_true rfl) rfl
theorem xs_192_0 : xe_P d 192 0 [.ref a, l1, l2, l3] st h Q = xe_P d 192 1 [.ref a, l1, l2, l3] (.ref a :: st) h Q := xe_P_lo (ins := .aload_n 0) (len := 1) (by decide +kernel) rfl rfl
theorem xs_192_1 : xe_P d 192 1 [l0, .int x, l2, l3] st h Q = xe_P d 192 2 [l0, .int x, l2, l3] (.int x :: st) h Q := xe_P_lo (ins := .iload_n 1) (len := 1) (by decide +kernel) rfl rfl
theorem xs_192_2 : xe_P d 192 2 ls (v0 :: .ref a :: st) h Q = ((xe_w st ≤ 8 ∧ xe_ob h a 7) ∧ xe_C d 137 [.ref a, v0] h (fun r h' => xe_P d 192 5 ls (r.toList ++ st) h' Q)) := xe_P_ivv (y := 192) (pc := 2) (z := 137) (i := 191) (vs := [v0]) (by decide +kernel) (by decide +kernel) rfl (by decide +kernel)
theorem xs_192_5 : xe_P d 192 5 ls (.int x :: st) h Q = (if x = 0 then xe_P d 192 8 ls st h Q else xe_P d 192 10 ls st h Q) := xe_P_ifn (ins := .ifCond .ne 5) (len := 3) (off := 5) (by decide +kernel) (by decide) rfl rfl rfl
theorem xs_192_8 : xe_P d 192 8 ls st h Q = xe_P d 192 9 ls (.int (-1) :: st) h Q := xe_P_ar (ins := .iconst (-1)) (len := 1) (by decide +kernel) rfl
theorem xs_192_9 : xe_P d 192 9 ls [.int x] h Q = Q (some (.int x)) h := xe_P_ireturn (by decide +kernel) rfl
theorem xs_192_10 : xe_P d 192 10 ls st h Q = xe_P d 192 11 ls (.int 0 :: st) h Q := xe_P_ar (ins := .iconst 0) (len := 1) (by decide +kernel) rfl
theorem xs_192_11 : xe_P d 192 11 [l0, l1, l2, l3] (.int x :: st) h Q = xe_P d 192 12 [l0, xe_cut l1, .int x, l3] st h Q := xe_P_lo (ins := .istore_n 2) (len := 1) (by decide +kernel) rfl rfl
theorem xs_192_12 : xe_P d 192 12 ls st h Q = xe_P d 192 13 ls (.int 0 :: st) h Q := xe_P_ar (ins := .iconst 0) (len := 1) (by decide +kernel) rfl
theorem xs_192_13 : xe_P d 192 13 [l0, l1, l2, l3] (.int x :: st) h Q = xe_P d 192 14 [l0, l1, xe_cut l2, .int x] st h Q := xe_P_lo (ins := .istore_n 3) (len := 1) (by decide +kernel) rfl rfl
theorem xs_192_14 : xe_P d 192 14 [l0, l1, l2, .int x] st h Q = xe_P d 192 15 [l0, l1, l2, .int x] (.int x :: st) h Q := xe_P_lo (ins := .iload_n 3) (len := 1) (by decide +kernel) rfl rfl
theorem xs_192_15 : xe_P d 192 15 [.ref a, l1, l2, l3] st h Q = xe_P d 192 16 [.ref a, l1, l2, l3] (.ref a :: st) h Q := xe_P_lo (ins := .aload_n 0) (len := 1) (by decide +kernel) rfl rfl
theorem xs_192_16 : xe_P d 192 16 ls (.ref a :: st) h Q = ((xe_w st ≤ 8 ∧ xe_ob h a 7) ∧ xe_C d 188 [.ref a] h (fun r h' => xe_P d 192 19 ls (r.toList ++ st) h' Q)) := xe_P_ivv (y := 192) (pc := 16) (z := 188) (i := 307) (vs := []) (by decide +kernel) (by decide +kernel) rfl (by decide +kernel)
theorem xs_192_19 : xe_P d 192 19 ls (.int v :: .int x :: st) h Q = (if v ≤ x then xe_P d 192 67 ls st h Q else xe_P d 192 22 ls st h Q) := xe_P_if (ins := .if_icmp .ge 48) (len := 3) (off := 48) (by decide +kernel) (by decide) rfl rfl rfl
theorem xs_192_22 : xe_P d 192 22 [.ref a, l1, l2, l3] st h Q = xe_P d 192 23 [.ref a, l1, l2, l3] (.ref a :: st) h Q := xe_P_lo (ins := .aload_n 0) (len := 1) (by decide +kernel) rfl rfl
theorem xs_192_23 : xe_P d 192 23 [l0, l1, l2, .int x] st h Q = xe_P d 192 24 [l0, l1, l2, .int x] (.int x :: st) h Q := xe_P_lo (ins := .iload_n 3) (len := 1) (by decide +kernel) rfl rfl
theorem xs_192_24 : xe_P d 192 24 ls (v0 :: .ref a :: st) h Q = ((xe_w st ≤ 8 ∧ xe_ob h a 7) ∧ xe_C d 187 [.ref a, v0] h (fun r h' => xe_P d 192 27 ls (r.toList ++ st) h' Q)) := xe_P_ivv (y := 192) (pc := 24) (z := 187) (i := 310) (vs := [v0]) (by decide +kernel) (by decide +kernel) rfl (by decide +kernel)
theorem xs_192_27 : xe_P d 192 27 [.ref a, l1, l2, l3] st h Q = xe_P d 192 28 [.ref a, l1, l2, l3] (.ref a :: st) h Q := xe_P_lo (ins := .aload_n 0) (len := 1) (by decide +kernel) rfl rfl
theorem xs_192_28 : xe_P d 192 28 ls (.ref a :: st) h Q = ((xe_w st ≤ 8 ∧ xe_ob h a 7) ∧ xe_C d 190 [.ref a] h (fun r h' => xe_P d 192 31 ls (r.toList ++ st) h' Q)) := xe_P_ivv (y := 192) (pc := 28) (z := 190) (i := 313) (vs := []) (by decide +kernel) (by decide +kernel) rfl (by decide +kernel)
theorem xs_192_31 : xe_P d 192 31 ls (.int x :: st) h Q = (if x = 0 then xe_P d 192 61 ls st h Q else xe_P d 192 34 ls st h Q) := xe_P_if (ins := .ifCond .eq 30) (len := 3) (off := 30) (by decide +kernel) (by decide) rfl rfl rfl
theorem xs_192_34 : xe_P d 192 34 [l0, l1, .int x, l3] st h Q = xe_P d 192 35 [l0, l1, .int x, l3] (.int x :: st) h Q := xe_P_lo (ins := .iload_n 2) (len := 1) (by decide +kernel) rfl rfl
theorem xs_192_35 : xe_P d 192 35 [.ref a, l1, l2, l3] st h Q = xe_P d 192 36 [.ref a, l1, l2, l3] (.ref a :: st) h Q := xe_P_lo (ins := .aload_n 0) (len := 1) (by decide +kernel) rfl rfl
theorem xs_192_36 : xe_P d 192 36 ls (.ref a :: st) h Q = (xe_ob h a 7 ∧ xe_P d 192 39 ls (va_rf (xe_R h a 33) :: st) h Q) := xe_P_getR (i := 63) (by decide +kernel) (by decide +kernel) (by decide) rfl
theorem xs_192_39 : xe_P d 192 39 [l0, .int x, l2, l3] st h Q = xe_P d 192 40 [l0, .int x, l2, l3] (.int x :: st) h Q := xe_P_lo (ins := .iload_n 1) (len := 1) (by decide +kernel) rfl rfl
theorem xs_192_40 : xe_P d 192 40 ls (.int v :: .ref a :: st) h Q = ((xe_ia h a ∧ xe_ix h a v) ∧ xe_P d 192 41 ls (.int (xe_I h a v.toNatClampNeg) :: st) h Q) := xe_P_iald (by decide +kernel)
theorem xs_192_41 : xe_P d 192 41 ls st h Q = xe_P d 192 43 ls (.int (-4) :: st) h Q := xe_P_ar (ins := .bipush (-4)) (len := 2) (by decide +kernel) rfl
theorem xs_192_43 : xe_P d 192 43 ls (.int v :: .int x :: st) h Q = (if x = v then xe_P d 192 46 ls st h Q else xe_P d 192 51 ls st h Q) := xe_P_ifn (ins := .if_icmp .ne 8) (len := 3) (off := 8) (by decide +kernel) (by decide) rfl rfl rfl
theorem xs_192_46 : xe_P d 192 46 ls st h Q = xe_P d 192 48 ls (.int 64 :: st) h Q := xe_P_ar (ins := .bipush 64) (len := 2) (by decide +kernel) rfl
theorem xs_192_48 : xe_P d 192 48 ls st h Q = xe_P d 192 59 ls st h Q := xe_P_go (len := 3) (off := 11) (by decide +kernel) (by decide)
theorem xs_192_51 : xe_P d 192 51 ls st h Q = xe_P d 192 52 ls (.int 1 :: st) h Q := xe_P_ar (ins := .iconst 1) (len := 1) (by decide +kernel) rfl
theorem xs_192_52 : xe_P d 192 52 [.ref a, l1, l2, l3] st h Q = xe_P d 192 53 [.ref a, l1, l2, l3] (.ref a :: st) h Q := xe_P_lo (ins := .aload_n 0) (len := 1) (by decide +kernel) rfl rfl
theorem xs_192_53 : xe_P d 192 53 ls (.ref a :: st) h Q = (xe_ob h a 7 ∧ xe_P d 192 56 ls (va_rf (xe_R h a 33) :: st) h Q) := xe_P_getR (i := 63) (by decide +kernel) (by decide +kernel) (by decide) rfl
theorem xs_192_56 : xe_P d 192 56 [l0, .int x, l2, l3] st h Q = xe_P d 192 57 [l0, .int x, l2, l3] (.int x :: st) h Q := xe_P_lo (ins := .iload_n 1) (len := 1) (by decide +kernel) rfl rfl
theorem xs_192_57 : xe_P d 192 57 ls (.int v :: .ref a :: st) h Q = ((xe_ia h a ∧ xe_ix h a v) ∧ xe_P d 192 58 ls (.int (xe_I h a v.toNatClampNeg) :: st) h Q) := xe_P_iald (by decide +kernel)
theorem xs_192_58 : xe_P d 192 58 ls (.int v :: .int x :: st) h Q = xe_P d 192 59 ls (.int (x <<< (v &&& 31)) :: st) h Q := xe_P_ar (ins := .ishl) (len := 1) (by decide +kernel) rfl
theorem xs_192_59 : xe_P d 192 59 ls (.int v :: .int x :: st) h Q = xe_P d 192 60 ls (.int (x ||| v) :: st) h Q := xe_P_ar (ins := .ior) (len := 1) (by decide +kernel) rfl
theorem xs_192_60 : xe_P d 192 60 [l0, l1, l2, l3] (.int x :: st) h Q = xe_P d 192 61 [l0, xe_cut l1, .int x, l3] st h Q := xe_P_lo (ins := .istore_n 2) (len := 1) (by decide +kernel) rfl rfl
theorem xs_192_61 : xe_P d 192 61 [l0, l1, l2, .int x] st h Q = xe_P d 192 64 [l0, l1, xe_cut l2, .int (x + 1)] st h Q := xe_P_lo (ins := .iinc 3 1) (len := 3) (by decide +kernel) rfl rfl
theorem xs_192_64 : xe_P d 192 64 ls st h Q = xe_P d 192 14 ls st h Q := xe_P_go (len := 3) (off := (-50)) (by decide +kernel) (by decide)
theorem xs_192_67 : xe_P d 192 67 [l0, l1, .int x, l3] st h Q = xe_P d 192 68 [l0, l1, .int x, l3] (.int x :: st) h Q := xe_P_lo (ins := .iload_n 2) (len := 1) (by decide +kernel) rfl rfl
theorem xs_192_68 : xe_P d 192 68 ls [.int x] h Q = Q (some (.int x)) h := xe_P_ireturn (by decide +kernel) rfl
theorem xs_192 : xe_C (d + 1) 192 [.ref a, .int x0] h Q = xe_P d 192 0 [.ref a, .int x0, .retAddr 0, .retAddr 0] [] h Q := xe_C_at (Nat.le_of_ble_eq_true rfl) rfl
theorem xs_193_0 : xe_P d 193 0 [.ref a, l1, l2, l3, l4] st h Q = xe_P d 193 1 [.ref a, l1, l2, l3, l4] (.ref a :: st) h Q := xe_P_lo (ins := .aload_n 0) (len := 1) (by decide +kernel) rfl rfl
theorem xs_193_1 : xe_P d 193 1 ls (.ref a :: st) h Q = ((xe_w st ≤ 8 ∧ xe_ob h a 7) ∧ xe_C d 147 [.ref a] h (fun r h' => xe_P d 193 4 ls (r.toList ++ st) h' Q)) := xe_P_ivv (y := 193) (pc := 1) (z := 147) (i := 232) (vs := []) (by decide +kernel) (by decide +kernel) rfl (by decide +kernel)
theorem xs_193_4 : xe_P d 193 4 [l0, l1, l2, l3, l4] (.int x :: st) h Q = xe_P d 193 5 [xe_cut l0, .int x, l2, l3, l4] st h Q := xe_P_lo (ins := .istore_n 1) (len := 1) (by decide +kernel) rfl rfl
theorem xs_193_5 : xe_P d 193 5 ls st h Q = xe_P d 193 6 ls (.int 0 :: st) h Q := xe_P_ar (ins := .iconst 0) (len := 1) (by decide +kernel) rfl
theorem xs_193_6 : xe_P d 193 6 [l0, l1, l2, l3, l4] (.int x :: st) h Q = xe_P d 193 7 [l0, xe_cut l1, .int x, l3, l4] st h Q := xe_P_lo (ins := .istore_n 2) (len := 1) (by decide +kernel) rfl rfl
theorem xs_193_7 : xe_P d 193 7 [l0, l1, .int x, l3, l4] st h Q = xe_P d 193 8 [l0, l1, .int x, l3, l4] (.int x :: st) h Q := xe_P_lo (ins := .iload_n 2) (len := 1) (by decide +kernel) rfl rfl
theorem xs_193_8 : xe_P d 193 8 ls st h Q = xe_P d 193 10 ls (.int 6 :: st) h Q := xe_P_ar (ins := .bipush 6) (len := 2) (by decide +kernel) rfl
theorem xs_193_10 : xe_P d 193 10 ls (.int v :: .int x :: st) h Q = (if v < x then xe_P d 193 145 ls st h Q else xe_P d 193 13 ls st h Q) := xe_P_if (ins := .if_icmp .gt 135) (len := 3) (off := 135) (by decide +kernel) (by decide) rfl rfl rfl
theorem xs_193_13 : xe_P d 193 13 [l0, l1, .int x, l3, l4] st h Q = xe_P d 193 14 [l0, l1, .int x, l3, l4] (.int x :: st) h Q := xe_P_lo (ins := .iload_n 2) (len := 1) (by decide +kernel) rfl rfl
theorem xs_193_14 : xe_P d 193 14 [.ref a, l1, l2, l3, l4] st h Q = xe_P d 193 15 [.ref a, l1, l2, l3, l4] (.ref a :: st) h Q := xe_P_lo (ins := .aload_n 0) (len := 1) (by decide +kernel) rfl rfl
theorem xs_193_15 : xe_P d 193 15 ls (.ref a :: st) h Q = ((xe_w st ≤ 8 ∧ xe_ob h a 7) ∧ xe_C d 136 [.ref a] h (fun r h' => xe_P d 193 18 ls (r.toList ++ st) h' Q)) := xe_P_ivv (y := 193) (pc := 15) (z := 136) (i := 181) (vs := []) (by decide +kernel) (by decide +kernel) rfl (by decide +kernel)
theorem xs_193_18 : xe_P d 193 18 ls (.int v :: .int x :: st) h Q = (if x < v then xe_P d 193 27 ls st h Q else xe_P d 193 21 ls st h Q) := xe_P_if (ins := .if_icmp .lt 9) (len := 3) (off := 9) (by decide +kernel) (by decide) rfl rfl rfl
theorem xs_193_21 : xe_P d 193 21 [l0, l1, .int x, l3, l4] st h Q = xe_P d 193 22 [l0, l1, .int x, l3, l4] (.int x :: st) h Q := xe_P_lo (ins := .iload_n 2) (len := 1) (by decide +kernel) rfl rfl
theorem xs_193_22 : xe_P d 193 22 ls st h Q = xe_P d 193 24 ls (.int 6 :: st) h Q := xe_P_ar (ins := .bipush 6) (len := 2) (by decide +kernel) rfl
theorem xs_193_24 : xe_P d 193 24 ls (.int v :: .int x :: st) h Q = (if x = v then xe_P d 193 27 ls st h Q else xe_P d 193 31 ls st h Q) := xe_P_ifn (ins := .if_icmp .ne 7) (len := 3) (off := 7) (by decide +kernel) (by decide) rfl rfl rfl
theorem xs_193_27 : xe_P d 193 27 ls st h Q = xe_P d 193 28 ls (.int 1 :: st) h Q := xe_P_ar (ins := .iconst 1) (len := 1) (by decide +kernel) rfl
theorem xs_193_28 : xe_P d 193 28 ls st h Q = xe_P d 193 32 ls st h Q := xe_P_go (len := 3) (off := 4) (by decide +kernel) (by decide)
theorem xs_193_31 : xe_P d 193 31 ls st h Q = xe_P d 193 32 ls (.int 0 :: st) h Q := xe_P_ar (ins := .iconst 0) (len := 1) (by decide +kernel) rfl
theorem xs_193_32 : xe_P d 193 32 [l0, l1, l2, l3, l4] (.int x :: st) h Q = xe_P d 193 33 [l0, l1, xe_cut l2, .int x, l4] st h Q := xe_P_lo (ins := .istore_n 3) (len := 1) (by decide +kernel) rfl rfl
theorem xs_193_33 : xe_P d 193 33 [.ref a, l1, l2, l3, l4] st h Q = xe_P d 193 34 [.ref a, l1, l2, l3, l4] (.ref a :: st) h Q := xe_P_lo (ins := .aload_n 0) (len := 1) (by decide +kernel) rfl rfl
theorem xs_193_34 : xe_P d 193 34 [l0, .int x, l2, l3, l4] st h Q = xe_P d 193 35 [l0, .int x, l2, l3, l4] (.int x :: st) h Q := xe_P_lo (ins := .iload_n 1) (len := 1) (by decide +kernel) rfl rfl
theorem xs_193_35 : xe_P d 193 35 ls (v0 :: .ref a :: st) h Q = ((xe_w st ≤ 8 ∧ xe_ob h a 7) ∧ xe_C d 146 [.ref a, v0] h (fun r h' => xe_P d 193 38 ls (r.toList ++ st) h' Q)) := xe_P_ivv (y := 193) (pc := 35) (z := 146) (i := 238) (vs := [v0]) (by decide +kernel) (by decide +kernel) rfl (by decide +kernel)
theorem xs_193_38 : xe_P d 193 38 [l0, l1, l2, .int x, l4] st h Q = xe_P d 193 39 [l0, l1, l2, .int x, l4] (.int x :: st) h Q := xe_P_lo (ins := .iload_n 3) (len := 1) (by decide +kernel) rfl rfl
theorem xs_193_39 : xe_P d 193 39 ls (.int x :: st) h Q = (if x = 0 then xe_P d 193 139 ls st h Q else xe_P d 193 42 ls st h Q) := xe_P_if (ins := .ifCond .eq 100) (len := 3) (off := 100) (by decide +kernel) (by decide) rfl rfl rfl
theorem xs_193_42 : xe_P d 193 42 [.ref a, l1, l2, l3, l4] st h Q = xe_P d 193 43 [.ref a, l1, l2, l3, l4] (.ref a :: st) h Q := xe_P_lo (ins := .aload_n 0) (len := 1) (by decide +kernel) rfl rfl
theorem xs_193_43 : xe_P d 193 43 [l0, l1, .int x, l3, l4] st h Q = xe_P d 193 44 [l0, l1, .int x, l3, l4] (.int x :: st) h Q := xe_P_lo (ins := .iload_n 2) (len := 1) (by decide +kernel) rfl rfl
theorem xs_193_44 : xe_P d 193 44 ls st h Q = xe_P d 193 46 ls (.int 6 :: st) h Q := xe_P_ar (ins := .bipush 6) (len := 2) (by decide +kernel) rfl
theorem xs_193_46 : xe_P d 193 46 ls (.int v :: .int x :: st) h Q = (if x = v then xe_P d 193 49 ls st h Q else xe_P d 193 54 ls st h Q) := xe_P_ifn (ins := .if_icmp .ne 8) (len := 3) (off := 8) (by decide +kernel) (by decide) rfl rfl rfl
theorem xs_193_49 : xe_P d 193 49 ls st h Q = xe_P d 193 51 ls (.int (-4) :: st) h Q := xe_P_ar (ins := .bipush (-4)) (len := 2) (by decide +kernel) rfl
theorem xs_193_51 : xe_P d 193 51 ls st h Q = xe_P d 193 55 ls st h Q := xe_P_go (len := 3) (off := 4) (by decide +kernel) (by decide)
theorem xs_193_54 : xe_P d 193 54 [l0, l1, .int x, l3, l4] st h Q = xe_P d 193 55 [l0, l1, .int x, l3, l4] (.int x :: st) h Q := xe_P_lo (ins := .iload_n 2) (len := 1) (by decide +kernel) rfl rfl
theorem xs_193_55 : xe_P d 193 55 ls (v0 :: .ref a :: st) h Q = ((xe_w st ≤ 8 ∧ xe_ob h a 7) ∧ xe_C d 189 [.ref a, v0] h (fun r h' => xe_P d 193 58 ls (r.toList ++ st) h' Q)) := xe_P_ivv (y := 193) (pc := 55) (z := 189) (i := 302) (vs := [v0]) (by decide +kernel) (by decide +kernel) rfl (by decide +kernel)
theorem xs_193_58 : xe_P d 193 58 ls (.int x :: st) h Q = (if x = 0 then xe_P d 193 139 ls st h Q else xe_P d 193 61 ls st h Q) := xe_P_if (ins := .ifCond .eq 81) (len := 3) (off := 81) (by decide +kernel) (by decide) rfl rfl rfl
theorem xs_193_61 : xe_P d 193 61 ls st h Q = xe_P d 193 62 ls (.int 0 :: st) h Q := xe_P_ar (ins := .iconst 0) (len := 1) (by decide +kernel) rfl
theorem xs_193_62 : xe_P d 193 62 [l0, l1, l2, l3, l4] (.int x :: st) h Q = xe_P d 193 64 [l0, l1, l2, xe_cut l3, .int x] st h Q := xe_P_lo (ins := .istore 4) (len := 2) (by decide +kernel) rfl rfl
theorem xs_193_64 : xe_P d 193 64 [l0, l1, l2, l3, .int x] st h Q = xe_P d 193 66 [l0, l1, l2, l3, .int x] (.int x :: st) h Q := xe_P_lo (ins := .iload 4) (len := 2) (by decide +kernel) rfl rfl
theorem xs_193_66 : xe_P d 193 66 [.ref a, l1, l2, l3, l4] st h Q = xe_P d 193 67 [.ref a, l1, l2, l3, l4] (.ref a :: st) h Q := xe_P_lo (ins := .aload_n 0) (len := 1) (by decide +kernel) rfl rfl
theorem xs_193_67 : xe_P d 193 67 ls (.ref a :: st) h Q = ((xe_w st ≤ 8 ∧ xe_ob h a 7) ∧ xe_C d 136 [.ref a] h (fun r h' => xe_P d 193 70 ls (r.toList ++ st) h' Q)) := xe_P_ivv (y := 193) (pc := 67) (z := 136) (i := 181) (vs := []) (by decide +kernel) (by decide +kernel) rfl (by decide +kernel)
theorem xs_193_70 : xe_P d 193 70 ls (.int v :: .int x :: st) h Q = (if v ≤ x then xe_P d 193 139 ls st h Q else xe_P d 193 73 ls st h Q) := xe_P_if (ins := .if_icmp .ge 69) (len := 3) (off := 69) (by decide +kernel) (by decide) rfl rfl rfl
theorem xs_193_73 : xe_P d 193 73 [.ref a, l1, l2, l3, l4] st h Q = xe_P d 193 74 [.ref a, l1, l2, l3, l4] (.ref a :: st) h Q := xe_P_lo (ins := .aload_n 0) (len := 1) (by decide +kernel) rfl rfl
theorem xs_193_74 : xe_P d 193 74 ls (.ref a :: st) h Q = (xe_ob h a 7 ∧ xe_P d 193 77 ls (va_rf (xe_R h a 34) :: st) h Q) := xe_P_getR (i := 66) (by decide +kernel) (by decide +kernel) (by decide) rfl
theorem xs_193_77 : xe_P d 193 77 ls st h Q = xe_P d 193 79 ls (.int 10 :: st) h Q := xe_P_ar (ins := .bipush 10) (len := 2) (by decide +kernel) rfl
theorem xs_193_79 : xe_P d 193 79 [l0, l1, .int x, l3, l4] st h Q = xe_P d 193 80 [l0, l1, .int x, l3, l4] (.int x :: st) h Q := xe_P_lo (ins := .iload_n 2) (len := 1) (by decide +kernel) rfl rfl
theorem xs_193_80 : xe_P d 193 80 ls (.int v :: .int x :: st) h Q = xe_P d 193 81 ls (.int (x * v) :: st) h Q := xe_P_ar (ins := .imul) (len := 1) (by decide +kernel) rfl
theorem xs_193_81 : xe_P d 193 81 [l0, l1, l2, l3, .int x] st h Q = xe_P d 193 83 [l0, l1, l2, l3, .int x] (.int x :: st) h Q := xe_P_lo (ins := .iload 4) (len := 2) (by decide +kernel) rfl rfl
theorem xs_193_83 : xe_P d 193 83 ls (.int v :: .int x :: st) h Q = xe_P d 193 84 ls (.int (x + v) :: st) h Q := xe_P_ar (ins := .iadd) (len := 1) (by decide +kernel) rfl
theorem xs_193_84 : xe_P d 193 84 ls (.int v :: .ref a :: st) h Q = xe_P d 193 85 ls (.int v :: .ref a :: .int v :: .ref a :: st) h Q := xe_P_ar (ins := .dup2) (len := 1) (by decide +kernel) rfl
theorem xs_193_85 : xe_P d 193 85 ls (.int v :: .ref a :: st) h Q = ((xe_ia h a ∧ xe_ix h a v) ∧ xe_P d 193 86 ls (.int (xe_I h a v.toNatClampNeg) :: st) h Q) := xe_P_iald (by decide +kernel)
theorem xs_193_86 : xe_P d 193 86 [.ref a, l1, l2, l3, l4] st h Q = xe_P d 193 87 [.ref a, l1, l2, l3, l4] (.ref a :: st) h Q := xe_P_lo (ins := .aload_n 0) (len := 1) (by decide +kernel) rfl rfl
theorem xs_193_87 : xe_P d 193 87 ls (.ref a :: st) h Q = (xe_ob h a 7 ∧ xe_P d 193 90 ls (va_rf (xe_R h a 22) :: st) h Q) := xe_P_getR (i := 35) (by decide +kernel) (by decide +kernel) (by decide) rfl
theorem xs_193_90 : xe_P d 193 90 [l0, l1, l2, l3, .int x] st h Q = xe_P d 193 92 [l0, l1, l2, l3, .int x] (.int x :: st) h Q := xe_P_lo (ins := .iload 4) (len := 2) (by decide +kernel) rfl rfl
theorem xs_193_92 : xe_P d 193 92 ls (.int v :: .ref a :: st) h Q = ((xe_ia h a ∧ xe_ix h a v) ∧ xe_P d 193 93 ls (.int (xe_I h a v.toNatClampNeg) :: st) h Q) := xe_P_iald (by decide +kernel)
theorem xs_193_93 : xe_P d 193 93 ls (.int x :: st) h Q = (if x = 0 then xe_P d 193 96 ls st h Q else xe_P d 193 100 ls st h Q) := xe_P_ifn (ins := .ifCond .ne 7) (len := 3) (off := 7) (by decide +kernel) (by decide) rfl rfl rfl
theorem xs_193_96 : xe_P d 193 96 ls st h Q = xe_P d 193 97 ls (.int 1 :: st) h Q := xe_P_ar (ins := .iconst 1) (len := 1) (by decide +kernel) rfl
theorem xs_193_97 : xe_P d 193 97 ls st h Q = xe_P d 193 101 ls st h Q := xe_P_go (len := 3) (off := 4) (by decide +kernel) (by decide)
theorem xs_193_100 : xe_P d 193 100 ls st h Q = xe_P d 193 101 ls (.int 0 :: st) h Q := xe_P_ar (ins := .iconst 0) (len := 1) (by decide +kernel) rfl
theorem xs_193_101 : xe_P d 193 101 ls (.int v :: .int x :: st) h Q = xe_P d 193 102 ls (.int (x + v) :: st) h Q := xe_P_ar (ins := .iadd) (len := 1) (by decide +kernel) rfl
theorem xs_193_102 : xe_P d 193 102 ls (.int x :: .int v :: .ref a :: st) h Q = ((xe_ob h a 8 ∧ xe_ix h a v) ∧ xe_P d 193 103 ls st (xe_sI h a v.toNatClampNeg x) Q) := xe_P_iast (by decide +kernel)
theorem xs_193_103 : xe_P d 193 103 [.ref a, l1, l2, l3, l4] st h Q = xe_P d 193 104 [.ref a, l1, l2, l3, l4] (.ref a :: st) h Q := xe_P_lo (ins := .aload_n 0) (len := 1) (by decide +kernel) rfl rfl
theorem xs_193_104 : xe_P d 193 104 ls (.ref a :: st) h Q = (xe_ob h a 7 ∧ xe_P d 193 107 ls (va_rf (xe_R h a 35) :: st) h Q) := xe_P_getR (i := 69) (by decide +kernel) (by decide +kernel) (by decide) rfl
theorem xs_193_107 : xe_P d 193 107 ls st h Q = xe_P d 193 109 ls (.int 10 :: st) h Q := xe_P_ar (ins := .bipush 10) (len := 2) (by decide +kernel) rfl
theorem xs_193_109 : xe_P d 193 109 [l0, l1, .int x, l3, l4] st h Q = xe_P d 193 110 [l0, l1, .int x, l3, l4] (.int x :: st) h Q := xe_P_lo (ins := .iload_n 2) (len := 1) (by decide +kernel) rfl rfl
theorem xs_193_110 : xe_P d 193 110 ls (.int v :: .int x :: st) h Q = xe_P d 193 111 ls (.int (x * v) :: st) h Q := xe_P_ar (ins := .imul) (len := 1) (by decide +kernel) rfl
theorem xs_193_111 : xe_P d 193 111 [l0, l1, l2, l3, .int x] st h Q = xe_P d 193 113 [l0, l1, l2, l3, .int x] (.int x :: st) h Q := xe_P_lo (ins := .iload 4) (len := 2) (by decide +kernel) rfl rfl
theorem xs_193_113 : xe_P d 193 113 ls (.int v :: .int x :: st) h Q = xe_P d 193 114 ls (.int (x + v) :: st) h Q := xe_P_ar (ins := .iadd) (len := 1) (by decide +kernel) rfl
theorem xs_193_114 : xe_P d 193 114 ls (.int v :: .ref a :: st) h Q = xe_P d 193 115 ls (.int v :: .ref a :: .int v :: .ref a :: st) h Q := xe_P_ar (ins := .dup2) (len := 1) (by decide +kernel) rfl
theorem xs_193_115 : xe_P d 193 115 ls (.int v :: .ref a :: st) h Q = ((xe_ia h a ∧ xe_ix h a v) ∧ xe_P d 193 116 ls (.int (xe_I h a v.toNatClampNeg) :: st) h Q) := xe_P_iald (by decide +kernel)
theorem xs_193_116 : xe_P d 193 116 [.ref a, l1, l2, l3, l4] st h Q = xe_P d 193 117 [.ref a, l1, l2, l3, l4] (.ref a :: st) h Q := xe_P_lo (ins := .aload_n 0) (len := 1) (by decide +kernel) rfl rfl
theorem xs_193_117 : xe_P d 193 117 ls (.ref a :: st) h Q = (xe_ob h a 7 ∧ xe_P d 193 120 ls (va_rf (xe_R h a 22) :: st) h Q) := xe_P_getR (i := 35) (by decide +kernel) (by decide +kernel) (by decide) rfl
theorem xs_193_120 : xe_P d 193 120 [l0, l1, l2, l3, .int x] st h Q = xe_P d 193 122 [l0, l1, l2, l3, .int x] (.int x :: st) h Q := xe_P_lo (ins := .iload 4) (len := 2) (by decide +kernel) rfl rfl
theorem xs_193_122 : xe_P d 193 122 ls (.int v :: .ref a :: st) h Q = ((xe_ia h a ∧ xe_ix h a v) ∧ xe_P d 193 123 ls (.int (xe_I h a v.toNatClampNeg) :: st) h Q) := xe_P_iald (by decide +kernel)
theorem xs_193_123 : xe_P d 193 123 ls (.int x :: st) h Q = (if x = 0 then xe_P d 193 126 ls st h Q else xe_P d 193 130 ls st h Q) := xe_P_ifn (ins := .ifCond .ne 7) (len := 3) (off := 7) (by decide +kernel) (by decide) rfl rfl rfl
theorem xs_193_126 : xe_P d 193 126 ls st h Q = xe_P d 193 127 ls (.int 0 :: st) h Q := xe_P_ar (ins := .iconst 0) (len := 1) (by decide +kernel) rfl
theorem xs_193_127 : xe_P d 193 127 ls st h Q = xe_P d 193 131 ls st h Q := xe_P_go (len := 3) (off := 4) (by decide +kernel) (by decide)
theorem xs_193_130 : xe_P d 193 130 ls st h Q = xe_P d 193 131 ls (.int 1 :: st) h Q := xe_P_ar (ins := .iconst 1) (len := 1) (by decide +kernel) rfl
theorem xs_193_131 : xe_P d 193 131 ls (.int v :: .int x :: st) h Q = xe_P d 193 132 ls (.int (x + v) :: st) h Q := xe_P_ar (ins := .iadd) (len := 1) (by decide +kernel) rfl
theorem xs_193_132 : xe_P d 193 132 ls (.int x :: .int v :: .ref a :: st) h Q = ((xe_ob h a 8 ∧ xe_ix h a v) ∧ xe_P d 193 133 ls st (xe_sI h a v.toNatClampNeg x) Q) := xe_P_iast (by decide +kernel)
theorem xs_193_133 : xe_P d 193 133 [l0, l1, l2, l3, .int x] st h Q = xe_P d 193 136 [l0, l1, l2, xe_cut l3, .int (x + 1)] st h Q := xe_P_lo (ins := .iinc 4 1) (len := 3) (by decide +kernel) rfl rfl
theorem xs_193_136 : xe_P d 193 136 ls st h Q = xe_P d 193 64 ls st h Q := xe_P_go (len := 3) (off := (-72)) (by decide +kernel) (by decide)
theorem xs_193_139 : xe_P d 193 139 [l0, l1, .int x, l3, l4] st h Q = xe_P d 193 142 [l0, xe_cut l1, .int (x + 1), l3, l4] st h Q := xe_P_lo (ins := .iinc 2 1) (len := 3) (by decide +kernel) rfl rfl
theorem xs_193_142 : xe_P d 193 142 ls st h Q = xe_P d 193 7 ls st h Q := xe_P_go (len := 3) (off := (-135)) (by decide +kernel) (by decide)
theorem xs_193_145 : xe_P d 193 145 ls [] h Q = Q none h := xe_P_vreturn (by decide +kernel) rfl
theorem xs_193 : xe_C (d + 1) 193 [.ref a] h Q = xe_P d 193 0 [.ref a, .retAddr 0, .retAddr 0, .retAddr 0, .retAddr 0] [] h Q := xe_C_at (Nat.le_of_ble_eq_true rfl) rfl
theorem xs_194_0 : xe_P d 194 0 [l0, .int x, l2, l3, l4, l5, l6, l7] st h Q = xe_P d 194 1 [l0, .int x, l2, l3, l4, l5, l6, l7] (.int x :: st) h Q := xe_P_lo (ins := .iload_n 1) (len := 1) (by decide +kernel) rfl rfl
theorem xs_194_1 : xe_P d 194 1 ls (.int x :: st) h Q = xe_P d 194 2 ls (.long x.toInt64 :: st) h Q := xe_P_ar (ins := .i2l) (len := 1) (by decide +kernel) rfl
theorem xs_194_2 : xe_P d 194 2 ls st h Q = xe_P d 194 3 ls (.long 0 :: st) h Q := xe_P_ar (ins := .lconst 0) (len := 1) (by decide +kernel) rfl
theorem xs_194_3 : xe_P d 194 3 ls st h Q = xe_P d 194 4 ls (.long 1 :: st) h Q := xe_P_ar (ins := .lconst 1) (len := 1) (by decide +kernel) rfl
theorem xs_194_4 : xe_P d 194 4 ls (v2 :: v1 :: v0 :: st) h Q = (xe_w st ≤ 8 ∧ xe_C d 120 [v0, v1, v2] h (fun r h' => xe_P d 194 7 ls (r.toList ++ st) h' Q)) := xe_P_ivs (y := 194) (pc := 4) (z := 120) (i := 88) (vs := [v2, v1, v0]) (by decide +kernel) (by decide +kernel) rfl
theorem xs_194_7 : xe_P d 194 7 ls (.int x :: st) h Q = (if x = 0 then xe_P d 194 10 ls st h Q else xe_P d 194 12 ls st h Q) := xe_P_ifn (ins := .ifCond .ne 5) (len := 3) (off := 5) (by decide +kernel) (by decide) rfl rfl rfl
theorem xs_194_10 : xe_P d 194 10 ls st h Q = xe_P d 194 11 ls (.int (-1) :: st) h Q := xe_P_ar (ins := .iconst (-1)) (len := 1) (by decide +kernel) rfl
theorem xs_194_11 : xe_P d 194 11 ls [.int x] h Q = Q (some (.int x)) h := xe_P_ireturn (by decide +kernel) rfl
theorem xs_194_12 : xe_P d 194 12 ls st h Q = xe_P d 194 13 ls (.int 0 :: st) h Q := xe_P_ar (ins := .iconst 0) (len := 1) (by decide +kernel) rfl
theorem xs_194_13 : xe_P d 194 13 [l0, l1, l2, l3, l4, l5, l6, l7] (.int x :: st) h Q = xe_P d 194 14 [l0, xe_cut l1, .int x, l3, l4, l5, l6, l7] st h Q := xe_P_lo (ins := .istore_n 2) (len := 1) (by decide +kernel) rfl rfl
theorem xs_194_14 : xe_P d 194 14 ls st h Q = xe_P d 194 15 ls (.int 0 :: st) h Q := xe_P_ar (ins := .iconst 0) (len := 1) (by decide +kernel) rfl
theorem xs_194_15 : xe_P d 194 15 [l0, l1, l2, l3, l4, l5, l6, l7] (.int x :: st) h Q = xe_P d 194 16 [l0, l1, xe_cut l2, .int x, l4, l5, l6, l7] st h Q := xe_P_lo (ins := .istore_n 3) (len := 1) (by decide +kernel) rfl rfl
theorem xs_194_16 : xe_P d 194 16 [l0, l1, l2, .int x, l4, l5, l6, l7] st h Q = xe_P d 194 17 [l0, l1, l2, .int x, l4, l5, l6, l7] (.int x :: st) h Q := xe_P_lo (ins := .iload_n 3) (len := 1) (by decide +kernel) rfl rfl
theorem xs_194_17 : xe_P d 194 17 ls st h Q = xe_P d 194 19 ls (.int 70 :: st) h Q := xe_P_ar (ins := .bipush 70) (len := 2) (by decide +kernel) rfl
theorem xs_194_19 : xe_P d 194 19 ls (.int v :: .int x :: st) h Q = (if v ≤ x then xe_P d 194 42 ls st h Q else xe_P d 194 22 ls st h Q) := xe_P_if (ins := .if_icmp .ge 23) (len := 3) (off := 23) (by decide +kernel) (by decide) rfl rfl rfl
theorem xs_194_22 : xe_P d 194 22 [.ref a, l1, l2, l3, l4, l5, l6, l7] st h Q = xe_P d 194 23 [.ref a, l1, l2, l3, l4, l5, l6, l7] (.ref a :: st) h Q := xe_P_lo (ins := .aload_n 0) (len := 1) (by decide +kernel) rfl rfl
theorem xs_194_23 : xe_P d 194 23 ls (.ref a :: st) h Q = (xe_ob h a 7 ∧ xe_P d 194 26 ls (va_rf (xe_R h a 34) :: st) h Q) := xe_P_getR (i := 66) (by decide +kernel) (by decide +kernel) (by decide) rfl
theorem xs_194_26 : xe_P d 194 26 [l0, l1, l2, .int x, l4, l5, l6, l7] st h Q = xe_P d 194 27 [l0, l1, l2, .int x, l4, l5, l6, l7] (.int x :: st) h Q := xe_P_lo (ins := .iload_n 3) (len := 1) (by decide +kernel) rfl rfl
theorem xs_194_27 : xe_P d 194 27 ls st h Q = xe_P d 194 28 ls (.int 0 :: st) h Q := xe_P_ar (ins := .iconst 0) (len := 1) (by decide +kernel) rfl
theorem xs_194_28 : xe_P d 194 28 ls (.int x :: .int v :: .ref a :: st) h Q = ((xe_ob h a 8 ∧ xe_ix h a v) ∧ xe_P d 194 29 ls st (xe_sI h a v.toNatClampNeg x) Q) := xe_P_iast (by decide +kernel)
theorem xs_194_29 : xe_P d 194 29 [.ref a, l1, l2, l3, l4, l5, l6, l7] st h Q = xe_P d 194 30 [.ref a, l1, l2, l3, l4, l5, l6, l7] (.ref a :: st) h Q := xe_P_lo (ins := .aload_n 0) (len := 1) (by decide +kernel) rfl rfl
theorem xs_194_30 : xe_P d 194 30 ls (.ref a :: st) h Q = (xe_ob h a 7 ∧ xe_P d 194 33 ls (va_rf (xe_R h a 35) :: st) h Q) := xe_P_getR (i := 69) (by decide +kernel) (by decide +kernel) (by decide) rfl
theorem xs_194_33 : xe_P d 194 33 [l0, l1, l2, .int x, l4, l5, l6, l7] st h Q = xe_P d 194 34 [l0, l1, l2, .int x, l4, l5, l6, l7] (.int x :: st) h Q := xe_P_lo (ins := .iload_n 3) (len := 1) (by decide +kernel) rfl rfl
theorem xs_194_34 : xe_P d 194 34 ls st h Q = xe_P d 194 35 ls (.int 0 :: st) h Q := xe_P_ar (ins := .iconst 0) (len := 1) (by decide +kernel) rfl
theorem xs_194_35 : xe_P d 194 35 ls (.int x :: .int v :: .ref a :: st) h Q = ((xe_ob h a 8 ∧ xe_ix h a v) ∧ xe_P d 194 36 ls st (xe_sI h a v.toNatClampNeg x) Q) := xe_P_iast (by decide +kernel)
theorem xs_194_36 : xe_P d 194 36 [l0, l1, l2, .int x, l4, l5, l6, l7] st h Q = xe_P d 194 39 [l0, l1, xe_cut l2, .int (x + 1), l4, l5, l6, l7] st h Q := xe_P_lo (ins := .iinc 3 1) (len := 3) (by decide +kernel) rfl rfl
theorem xs_194_39 : xe_P d 194 39 ls st h Q = xe_P d 194 16 ls st h Q := xe_P_go (len := 3) (off := (-23)) (by decide +kernel) (by decide)
theorem xs_194_42 : xe_P d 194 42 ls st h Q = xe_P d 194 43 ls (.int 0 :: st) h Q := xe_P_ar (ins := .iconst 0) (len := 1) (by decide +kernel) rfl
theorem xs_194_43 : xe_P d 194 43 [l0, l1, l2, l3, l4, l5, l6, l7] (.int x :: st) h Q = xe_P d 194 44 [l0, l1, xe_cut l2, .int x, l4, l5, l6, l7] st h Q := xe_P_lo (ins := .istore_n 3) (len := 1) (by decide +kernel) rfl rfl
theorem xs_194_44 : xe_P d 194 44 [l0, l1, l2, .int x, l4, l5, l6, l7] st h Q = xe_P d 194 45 [l0, l1, l2, .int x, l4, l5, l6, l7] (.int x :: st) h Q := xe_P_lo (ins := .iload_n 3) (len := 1) (by decide +kernel) rfl rfl
theorem xs_194_45 : xe_P d 194 45 [.ref a, l1, l2, l3, l4, l5, l6, l7] st h Q = xe_P d 194 46 [.ref a, l1, l2, l3, l4, l5, l6, l7] (.ref a :: st) h Q := xe_P_lo (ins := .aload_n 0) (len := 1) (by decide +kernel) rfl rfl
theorem xs_194_46 : xe_P d 194 46 ls (.ref a :: st) h Q = ((xe_w st ≤ 8 ∧ xe_ob h a 7) ∧ xe_C d 188 [.ref a] h (fun r h' => xe_P d 194 49 ls (r.toList ++ st) h' Q)) := xe_P_ivv (y := 194) (pc := 46) (z := 188) (i := 307) (vs := []) (by decide +kernel) (by decide +kernel) rfl (by decide +kernel)
theorem xs_194_49 : xe_P d 194 49 ls (.int v :: .int x :: st) h Q = (if v ≤ x then xe_P d 194 77 ls st h Q else xe_P d 194 52 ls st h Q) := xe_P_if (ins := .if_icmp .ge 28) (len := 3) (off := 28) (by decide +kernel) (by decide) rfl rfl rfl
theorem xs_194_52 : xe_P d 194 52 [.ref a, l1, l2, l3, l4, l5, l6, l7] st h Q = xe_P d 194 53 [.ref a, l1, l2, l3, l4, l5, l6, l7] (.ref a :: st) h Q := xe_P_lo (ins := .aload_n 0) (len := 1) (by decide +kernel) rfl rfl
theorem xs_194_53 : xe_P d 194 53 [l0, l1, l2, .int x, l4, l5, l6, l7] st h Q = xe_P d 194 54 [l0, l1, l2, .int x, l4, l5, l6, l7] (.int x :: st) h Q := xe_P_lo (ins := .iload_n 3) (len := 1) (by decide +kernel) rfl rfl
theorem xs_194_54 : xe_P d 194 54 ls (v0 :: .ref a :: st) h Q = ((xe_w st ≤ 8 ∧ xe_ob h a 7) ∧ xe_C d 187 [.ref a, v0] h (fun r h' => xe_P d 194 57 ls (r.toList ++ st) h' Q)) := xe_P_ivv (y := 194) (pc := 54) (z := 187) (i := 310) (vs := [v0]) (by decide +kernel) (by decide +kernel) rfl (by decide +kernel)
theorem xs_194_57 : xe_P d 194 57 [.ref a, l1, l2, l3, l4, l5, l6, l7] st h Q = xe_P d 194 58 [.ref a, l1, l2, l3, l4, l5, l6, l7] (.ref a :: st) h Q := xe_P_lo (ins := .aload_n 0) (len := 1) (by decide +kernel) rfl rfl
theorem xs_194_58 : xe_P d 194 58 ls (.ref a :: st) h Q = ((xe_w st ≤ 8 ∧ xe_ob h a 7) ∧ xe_C d 190 [.ref a] h (fun r h' => xe_P d 194 61 ls (r.toList ++ st) h' Q)) := xe_P_ivv (y := 194) (pc := 58) (z := 190) (i := 313) (vs := []) (by decide +kernel) (by decide +kernel) rfl (by decide +kernel)
theorem xs_194_61 : xe_P d 194 61 ls (.int x :: st) h Q = (if x = 0 then xe_P d 194 71 ls st h Q else xe_P d 194 64 ls st h Q) := xe_P_if (ins := .ifCond .eq 10) (len := 3) (off := 10) (by decide +kernel) (by decide) rfl rfl rfl
theorem xs_194_64 : xe_P d 194 64 [l0, l1, .int x, l3, l4, l5, l6, l7] st h Q = xe_P d 194 67 [l0, xe_cut l1, .int (x + 1), l3, l4, l5, l6, l7] st h Q := xe_P_lo (ins := .iinc 2 1) (len := 3) (by decide +kernel) rfl rfl
theorem xs_194_67 : xe_P d 194 67 [.ref a, l1, l2, l3, l4, l5, l6, l7] st h Q = xe_P d 194 68 [.ref a, l1, l2, l3, l4, l5, l6, l7] (.ref a :: st) h Q := xe_P_lo (ins := .aload_n 0) (len := 1) (by decide +kernel) rfl rfl
theorem xs_194_68 : xe_P d 194 68 ls (.ref a :: st) h Q = ((xe_w st ≤ 8 ∧ xe_ob h a 7) ∧ xe_C d 193 [.ref a] h (fun r h' => xe_P d 194 71 ls (r.toList ++ st) h' Q)) := xe_P_ivv (y := 194) (pc := 68) (z := 193) (i := 317) (vs := []) (by decide +kernel) (by decide +kernel) rfl (by decide +kernel)
theorem xs_194_71 : xe_P d 194 71 [l0, l1, l2, .int x, l4, l5, l6, l7] st h Q = xe_P d 194 74 [l0, l1, xe_cut l2, .int (x + 1), l4, l5, l6, l7] st h Q := xe_P_lo (ins := .iinc 3 1) (len := 3) (by decide +kernel) rfl rfl
theorem xs_194_74 : xe_P d 194 74 ls st h Q = xe_P d 194 44 ls st h Q := xe_P_go (len := 3) (off := (-30)) (by decide +kernel) (by decide)
theorem xs_194_77 : xe_P d 194 77 ls st h Q = xe_P d 194 79 ls (.int (-4) :: st) h Q := xe_P_ar (ins := .bipush (-4)) (len := 2) (by decide +kernel) rfl
theorem xs_194_79 : xe_P d 194 79 [l0, l1, l2, l3, l4, l5, l6, l7] (.int x :: st) h Q = xe_P d 194 80 [l0, l1, xe_cut l2, .int x, l4, l5, l6, l7] st h Q := xe_P_lo (ins := .istore_n 3) (len := 1) (by decide +kernel) rfl rfl
theorem xs_194_80 : xe_P d 194 80 [l0, l1, .int x, l3, l4, l5, l6, l7] st h Q = xe_P d 194 81 [l0, l1, .int x, l3, l4, l5, l6, l7] (.int x :: st) h Q := xe_P_lo (ins := .iload_n 2) (len := 1) (by decide +kernel) rfl rfl
theorem xs_194_81 : xe_P d 194 81 [l0, l1, l2, l3, l4, l5, l6, l7] (.int x :: st) h Q = xe_P d 194 83 [l0, l1, l2, xe_cut l3, .int x, l5, l6, l7] st h Q := xe_P_lo (ins := .istore 4) (len := 2) (by decide +kernel) rfl rfl
theorem xs_194_83 : xe_P d 194 83 ls st h Q = xe_P d 194 84 ls (.int 0 :: st) h Q := xe_P_ar (ins := .iconst 0) (len := 1) (by decide +kernel) rfl
theorem xs_194_84 : xe_P d 194 84 [l0, l1, l2, l3, l4, l5, l6, l7] (.int x :: st) h Q = xe_P d 194 86 [l0, l1, l2, l3, xe_cut l4, .int x, l6, l7] st h Q := xe_P_lo (ins := .istore 5) (len := 2) (by decide +kernel) rfl rfl
theorem xs_194_86 : xe_P d 194 86 [l0, l1, l2, l3, l4, .int x, l6, l7] st h Q = xe_P d 194 88 [l0, l1, l2, l3, l4, .int x, l6, l7] (.int x :: st) h Q := xe_P_lo (ins := .iload 5) (len := 2) (by decide +kernel) rfl rfl
theorem xs_194_88 : xe_P d 194 88 ls st h Q = xe_P d 194 90 ls (.int 70 :: st) h Q := xe_P_ar (ins := .bipush 70) (len := 2) (by decide +kernel) rfl
theorem xs_194_90 : xe_P d 194 90 ls (.int v :: .int x :: st) h Q = (if v ≤ x then xe_P d 194 216 ls st h Q else xe_P d 194 93 ls st h Q) := xe_P_if (ins := .if_icmp .ge 126) (len := 3) (off := 126) (by decide +kernel) (by decide) rfl rfl rfl
theorem xs_194_93 : xe_P d 194 93 [l0, l1, l2, l3, l4, .int x, l6, l7] st h Q = xe_P d 194 95 [l0, l1, l2, l3, l4, .int x, l6, l7] (.int x :: st) h Q := xe_P_lo (ins := .iload 5) (len := 2) (by decide +kernel) rfl rfl
theorem xs_194_95 : xe_P d 194 95 ls st h Q = xe_P d 194 97 ls (.int 10 :: st) h Q := xe_P_ar (ins := .bipush 10) (len := 2) (by decide +kernel) rfl
theorem xs_194_97 : xe_P d 194 97 ls (.int v :: .int x :: st) h Q = (¬ v = 0 ∧ xe_P d 194 98 ls (.int (x - x / v * v) :: st) h Q) := xe_P_rem (by decide +kernel)
theorem xs_194_98 : xe_P d 194 98 [.ref a, l1, l2, l3, l4, l5, l6, l7] st h Q = xe_P d 194 99 [.ref a, l1, l2, l3, l4, l5, l6, l7] (.ref a :: st) h Q := xe_P_lo (ins := .aload_n 0) (len := 1) (by decide +kernel) rfl rfl
theorem xs_194_99 : xe_P d 194 99 ls (.ref a :: st) h Q = ((xe_w st ≤ 8 ∧ xe_ob h a 7) ∧ xe_C d 136 [.ref a] h (fun r h' => xe_P d 194 102 ls (r.toList ++ st) h' Q)) := xe_P_ivv (y := 194) (pc := 99) (z := 136) (i := 181) (vs := []) (by decide +kernel) (by decide +kernel) rfl (by decide +kernel)
theorem xs_194_102 : xe_P d 194 102 ls (.int v :: .int x :: st) h Q = (if v ≤ x then xe_P d 194 131 ls st h Q else xe_P d 194 105 ls st h Q) := xe_P_if (ins := .if_icmp .ge 29) (len := 3) (off := 29) (by decide +kernel) (by decide) rfl rfl rfl
theorem xs_194_105 : xe_P d 194 105 [l0, l1, l2, l3, l4, .int x, l6, l7] st h Q = xe_P d 194 107 [l0, l1, l2, l3, l4, .int x, l6, l7] (.int x :: st) h Q := xe_P_lo (ins := .iload 5) (len := 2) (by decide +kernel) rfl rfl
theorem xs_194_107 : xe_P d 194 107 ls st h Q = xe_P d 194 109 ls (.int 10 :: st) h Q := xe_P_ar (ins := .bipush 10) (len := 2) (by decide +kernel) rfl
theorem xs_194_109 : xe_P d 194 109 ls (.int v :: .int x :: st) h Q = (¬ v = 0 ∧ xe_P d 194 110 ls (.int (x / v) :: st) h Q) := xe_P_div (by decide +kernel)
theorem xs_194_110 : xe_P d 194 110 [.ref a, l1, l2, l3, l4, l5, l6, l7] st h Q = xe_P d 194 111 [.ref a, l1, l2, l3, l4, l5, l6, l7] (.ref a :: st) h Q := xe_P_lo (ins := .aload_n 0) (len := 1) (by decide +kernel) rfl rfl
theorem xs_194_111 : xe_P d 194 111 ls (.ref a :: st) h Q = ((xe_w st ≤ 8 ∧ xe_ob h a 7) ∧ xe_C d 136 [.ref a] h (fun r h' => xe_P d 194 114 ls (r.toList ++ st) h' Q)) := xe_P_ivv (y := 194) (pc := 111) (z := 136) (i := 181) (vs := []) (by decide +kernel) (by decide +kernel) rfl (by decide +kernel)
theorem xs_194_114 : xe_P d 194 114 ls (.int v :: .int x :: st) h Q = (if x < v then xe_P d 194 127 ls st h Q else xe_P d 194 117 ls st h Q) := xe_P_if (ins := .if_icmp .lt 13) (len := 3) (off := 13) (by decide +kernel) (by decide) rfl rfl rfl
theorem xs_194_117 : xe_P d 194 117 [l0, l1, l2, l3, l4, .int x, l6, l7] st h Q = xe_P d 194 119 [l0, l1, l2, l3, l4, .int x, l6, l7] (.int x :: st) h Q := xe_P_lo (ins := .iload 5) (len := 2) (by decide +kernel) rfl rfl
theorem xs_194_119 : xe_P d 194 119 ls st h Q = xe_P d 194 121 ls (.int 10 :: st) h Q := xe_P_ar (ins := .bipush 10) (len := 2) (by decide +kernel) rfl
theorem xs_194_121 : xe_P d 194 121 ls (.int v :: .int x :: st) h Q = (¬ v = 0 ∧ xe_P d 194 122 ls (.int (x / v) :: st) h Q) := xe_P_div (by decide +kernel)
theorem xs_194_122 : xe_P d 194 122 ls st h Q = xe_P d 194 124 ls (.int 6 :: st) h Q := xe_P_ar (ins := .bipush 6) (len := 2) (by decide +kernel) rfl
theorem xs_194_124 : xe_P d 194 124 ls (.int v :: .int x :: st) h Q = (if x = v then xe_P d 194 127 ls st h Q else xe_P d 194 131 ls st h Q) := xe_P_ifn (ins := .if_icmp .ne 7) (len := 3) (off := 7) (by decide +kernel) (by decide) rfl rfl rfl
theorem xs_194_127 : xe_P d 194 127 ls st h Q = xe_P d 194 128 ls (.int 1 :: st) h Q := xe_P_ar (ins := .iconst 1) (len := 1) (by decide +kernel) rfl
theorem xs_194_128 : xe_P d 194 128 ls st h Q = xe_P d 194 132 ls st h Q := xe_P_go (len := 3) (off := 4) (by decide +kernel) (by decide)
theorem xs_194_131 : xe_P d 194 131 ls st h Q = xe_P d 194 132 ls (.int 0 :: st) h Q := xe_P_ar (ins := .iconst 0) (len := 1) (by decide +kernel) rfl
theorem xs_194_132 : xe_P d 194 132 [l0, l1, l2, l3, l4, l5, l6, l7] (.int x :: st) h Q = xe_P d 194 134 [l0, l1, l2, l3, l4, xe_cut l5, .int x, l7] st h Q := xe_P_lo (ins := .istore 6) (len := 2) (by decide +kernel) rfl rfl
theorem xs_194_134 : xe_P d 194 134 [.ref a, l1, l2, l3, l4, l5, l6, l7] st h Q = xe_P d 194 135 [.ref a, l1, l2, l3, l4, l5, l6, l7] (.ref a :: st) h Q := xe_P_lo (ins := .aload_n 0) (len := 1) (by decide +kernel) rfl rfl
theorem xs_194_135 : xe_P d 194 135 ls (.ref a :: st) h Q = (xe_ob h a 7 ∧ xe_P d 194 138 ls (va_rf (xe_R h a 34) :: st) h Q) := xe_P_getR (i := 66) (by decide +kernel) (by decide +kernel) (by decide) rfl
theorem xs_194_138 : xe_P d 194 138 [l0, l1, l2, l3, l4, .int x, l6, l7] st h Q = xe_P d 194 140 [l0, l1, l2, l3, l4, .int x, l6, l7] (.int x :: st) h Q := xe_P_lo (ins := .iload 5) (len := 2) (by decide +kernel) rfl rfl
theorem xs_194_140 : xe_P d 194 140 ls (.int v :: .ref a :: st) h Q = ((xe_ia h a ∧ xe_ix h a v) ∧ xe_P d 194 141 ls (.int (xe_I h a v.toNatClampNeg) :: st) h Q) := xe_P_iald (by decide +kernel)
theorem xs_194_141 : xe_P d 194 141 [.ref a, l1, l2, l3, l4, l5, l6, l7] st h Q = xe_P d 194 142 [.ref a, l1, l2, l3, l4, l5, l6, l7] (.ref a :: st) h Q := xe_P_lo (ins := .aload_n 0) (len := 1) (by decide +kernel) rfl rfl
theorem xs_194_142 : xe_P d 194 142 ls (.ref a :: st) h Q = (xe_ob h a 7 ∧ xe_P d 194 145 ls (va_rf (xe_R h a 35) :: st) h Q) := xe_P_getR (i := 69) (by decide +kernel) (by decide +kernel) (by decide) rfl
theorem xs_194_145 : xe_P d 194 145 [l0, l1, l2, l3, l4, .int x, l6, l7] st h Q = xe_P d 194 147 [l0, l1, l2, l3, l4, .int x, l6, l7] (.int x :: st) h Q := xe_P_lo (ins := .iload 5) (len := 2) (by decide +kernel) rfl rfl
theorem xs_194_147 : xe_P d 194 147 ls (.int v :: .ref a :: st) h Q = ((xe_ia h a ∧ xe_ix h a v) ∧ xe_P d 194 148 ls (.int (xe_I h a v.toNatClampNeg) :: st) h Q) := xe_P_iald (by decide +kernel)
theorem xs_194_148 : xe_P d 194 148 ls (.int v :: .int x :: st) h Q = (if x ≤ v then xe_P d 194 161 ls st h Q else xe_P d 194 151 ls st h Q) := xe_P_if (ins := .if_icmp .le 13) (len := 3) (off := 13) (by decide +kernel) (by decide) rfl rfl rfl
theorem xs_194_151 : xe_P d 194 151 [.ref a, l1, l2, l3, l4, l5, l6, l7] st h Q = xe_P d 194 152 [.ref a, l1, l2, l3, l4, l5, l6, l7] (.ref a :: st) h Q := xe_P_lo (ins := .aload_n 0) (len := 1) (by decide +kernel) rfl rfl
theorem xs_194_152 : xe_P d 194 152 ls (.ref a :: st) h Q = (xe_ob h a 7 ∧ xe_P d 194 155 ls (va_rf (xe_R h a 34) :: st) h Q) := xe_P_getR (i := 66) (by decide +kernel) (by decide +kernel) (by decide) rfl
theorem xs_194_155 : xe_P d 194 155 [l0, l1, l2, l3, l4, .int x, l6, l7] st h Q = xe_P d 194 157 [l0, l1, l2, l3, l4, .int x, l6, l7] (.int x :: st) h Q := xe_P_lo (ins := .iload 5) (len := 2) (by decide +kernel) rfl rfl
theorem xs_194_157 : xe_P d 194 157 ls (.int v :: .ref a :: st) h Q = ((xe_ia h a ∧ xe_ix h a v) ∧ xe_P d 194 158 ls (.int (xe_I h a v.toNatClampNeg) :: st) h Q) := xe_P_iald (by decide +kernel)
theorem xs_194_158 : xe_P d 194 158 ls st h Q = xe_P d 194 168 ls st h Q := xe_P_go (len := 3) (off := 10) (by decide +kernel) (by decide)
theorem xs_194_161 : xe_P d 194 161 [.ref a, l1, l2, l3, l4, l5, l6, l7] st h Q = xe_P d 194 162 [.ref a, l1, l2, l3, l4, l5, l6, l7] (.ref a :: st) h Q := xe_P_lo (ins := .aload_n 0) (len := 1) (by decide +kernel) rfl rfl
theorem xs_194_162 : xe_P d 194 162 ls (.ref a :: st) h Q = (xe_ob h a 7 ∧ xe_P d 194 165 ls (va_rf (xe_R h a 35) :: st) h Q) := xe_P_getR (i := 69) (by decide +kernel) (by decide +kernel) (by decide) rfl
theorem xs_194_165 : xe_P d 194 165 [l0, l1, l2, l3, l4, .int x, l6, l7] st h Q = xe_P d 194 167 [l0, l1, l2, l3, l4, .int x, l6, l7] (.int x :: st) h Q := xe_P_lo (ins := .iload 5) (len := 2) (by decide +kernel) rfl rfl
theorem xs_194_167 : xe_P d 194 167 ls (.int v :: .ref a :: st) h Q = ((xe_ia h a ∧ xe_ix h a v) ∧ xe_P d 194 168 ls (.int (xe_I h a v.toNatClampNeg) :: st) h Q) := xe_P_iald (by decide +kernel)
theorem xs_194_168 : xe_P d 194 168 [l0, l1, l2, l3, l4, l5, l6, l7] (.int x :: st) h Q = xe_P d 194 170 [l0, l1, l2, l3, l4, l5, xe_cut l6, .int x] st h Q := xe_P_lo (ins := .istore 7) (len := 2) (by decide +kernel) rfl rfl
theorem xs_194_170 : xe_P d 194 170 [l0, l1, l2, l3, l4, l5, .int x, l7] st h Q = xe_P d 194 172 [l0, l1, l2, l3, l4, l5, .int x, l7] (.int x :: st) h Q := xe_P_lo (ins := .iload 6) (len := 2) (by decide +kernel) rfl rfl
theorem xs_194_172 : xe_P d 194 172 ls (.int x :: st) h Q = (if x = 0 then xe_P d 194 187 ls st h Q else xe_P d 194 175 ls st h Q) := xe_P_if (ins := .ifCond .eq 15) (len := 3) (off := 15) (by decide +kernel) (by decide) rfl rfl rfl
theorem xs_194_175 : xe_P d 194 175 [l0, l1, l2, l3, l4, l5, l6, .int x] st h Q = xe_P d 194 177 [l0, l1, l2, l3, l4, l5, l6, .int x] (.int x :: st) h Q := xe_P_lo (ins := .iload 7) (len := 2) (by decide +kernel) rfl rfl
theorem xs_194_177 : xe_P d 194 177 [l0, l1, l2, l3, .int x, l5, l6, l7] st h Q = xe_P d 194 179 [l0, l1, l2, l3, .int x, l5, l6, l7] (.int x :: st) h Q := xe_P_lo (ins := .iload 4) (len := 2) (by decide +kernel) rfl rfl
theorem xs_194_179 : xe_P d 194 179 ls (.int v :: .int x :: st) h Q = (if v ≤ x then xe_P d 194 187 ls st h Q else xe_P d 194 182 ls st h Q) := xe_P_if (ins := .if_icmp .ge 8) (len := 3) (off := 8) (by decide +kernel) (by decide) rfl rfl rfl
theorem xs_194_182 : xe_P d 194 182 [l0, l1, l2, l3, l4, .int x, l6, l7] st h Q = xe_P d 194 184 [l0, l1, l2, l3, l4, .int x, l6, l7] (.int x :: st) h Q := xe_P_lo (ins := .iload 5) (len := 2) (by decide +kernel) rfl rfl
theorem xs_194_184 : xe_P d 194 184 ls st h Q = xe_P d 194 188 ls st h Q := xe_P_go (len := 3) (off := 4) (by decide +kernel) (by decide)
theorem xs_194_187 : xe_P d 194 187 [l0, l1, l2, .int x, l4, l5, l6, l7] st h Q = xe_P d 194 188 [l0, l1, l2, .int x, l4, l5, l6, l7] (.int x :: st) h Q := xe_P_lo (ins := .iload_n 3) (len := 1) (by decide +kernel) rfl rfl
theorem xs_194_188 : xe_P d 194 188 [l0, l1, l2, l3, l4, l5, l6, l7] (.int x :: st) h Q = xe_P d 194 189 [l0, l1, xe_cut l2, .int x, l4, l5, l6, l7] st h Q := xe_P_lo (ins := .istore_n 3) (len := 1) (by decide +kernel) rfl rfl
theorem xs_194_189 : xe_P d 194 189 [l0, l1, l2, l3, l4, l5, .int x, l7] st h Q = xe_P d 194 191 [l0, l1, l2, l3, l4, l5, .int x, l7] (.int x :: st) h Q := xe_P_lo (ins := .iload 6) (len := 2) (by decide +kernel) rfl rfl
theorem xs_194_191 : xe_P d 194 191 ls (.int x :: st) h Q = (if x = 0 then xe_P d 194 206 ls st h Q else xe_P d 194 194 ls st h Q) := xe_P_if (ins := .ifCond .eq 15) (len := 3) (off := 15) (by decide +kernel) (by decide) rfl rfl rfl
theorem xs_194_194 : xe_P d 194 194 [l0, l1, l2, l3, l4, l5, l6, .int x] st h Q = xe_P d 194 196 [l0, l1, l2, l3, l4, l5, l6, .int x] (.int x :: st) h Q := xe_P_lo (ins := .iload 7) (len := 2) (by decide +kernel) rfl rfl
theorem xs_194_196 : xe_P d 194 196 [l0, l1, l2, l3, .int x, l5, l6, l7] st h Q = xe_P d 194 198 [l0, l1, l2, l3, .int x, l5, l6, l7] (.int x :: st) h Q := xe_P_lo (ins := .iload 4) (len := 2) (by decide +kernel) rfl rfl
theorem xs_194_198 : xe_P d 194 198 ls (.int v :: .int x :: st) h Q = (if v ≤ x then xe_P d 194 206 ls st h Q else xe_P d 194 201 ls st h Q) := xe_P_if (ins := .if_icmp .ge 8) (len := 3) (off := 8) (by decide +kernel) (by decide) rfl rfl rfl
theorem xs_194_201 : xe_P d 194 201 [l0, l1, l2, l3, l4, l5, l6, .int x] st h Q = xe_P d 194 203 [l0, l1, l2, l3, l4, l5, l6, .int x] (.int x :: st) h Q := xe_P_lo (ins := .iload 7) (len := 2) (by decide +kernel) rfl rfl
theorem xs_194_203 : xe_P d 194 203 ls st h Q = xe_P d 194 208 ls st h Q := xe_P_go (len := 3) (off := 5) (by decide +kernel) (by decide)
theorem xs_194_206 : xe_P d 194 206 [l0, l1, l2, l3, .int x, l5, l6, l7] st h Q = xe_P d 194 208 [l0, l1, l2, l3, .int x, l5, l6, l7] (.int x :: st) h Q := xe_P_lo (ins := .iload 4) (len := 2) (by decide +kernel) rfl rfl
theorem xs_194_208 : xe_P d 194 208 [l0, l1, l2, l3, l4, l5, l6, l7] (.int x :: st) h Q = xe_P d 194 210 [l0, l1, l2, xe_cut l3, .int x, l5, l6, l7] st h Q := xe_P_lo (ins := .istore 4) (len := 2) (by decide +kernel) rfl rfl
theorem xs_194_210 : xe_P d 194 210 [l0, l1, l2, l3, l4, .int x, l6, l7] st h Q = xe_P d 194 213 [l0, l1, l2, l3, xe_cut l4, .int (x + 1), l6, l7] st h Q := xe_P_lo (ins := .iinc 5 1) (len := 3) (by decide +kernel) rfl rfl
theorem xs_194_213 : xe_P d 194 213 ls st h Q = xe_P d 194 86 ls st h Q := xe_P_go (len := 3) (off := (-127)) (by decide +kernel) (by decide)
theorem xs_194_216 : xe_P d 194 216 [l0, l1, l2, .int x, l4, l5, l6, l7] st h Q = xe_P d 194 217 [l0, l1, l2, .int x, l4, l5, l6, l7] (.int x :: st) h Q := xe_P_lo (ins := .iload_n 3) (len := 1) (by decide +kernel) rfl rfl
theorem xs_194_217 : xe_P d 194 217 ls st h Q = xe_P d 194 219 ls (.int (-4) :: st) h Q := xe_P_ar (ins := .bipush (-4)) (len := 2) (by decide +kernel) rfl
theorem xs_194_219 : xe_P d 194 219 ls (.int v :: .int x :: st) h Q = (if x = v then xe_P d 194 226 ls st h Q else xe_P d 194 222 ls st h Q) := xe_P_if (ins := .if_icmp .eq 7) (len := 3) (off := 7) (by decide +kernel) (by decide) rfl rfl rfl
theorem xs_194_222 : xe_P d 194 222 [l0, .int x, l2, l3, l4, l5, l6, l7] st h Q = xe_P d 194 223 [l0, .int x, l2, l3, l4, l5, l6, l7] (.int x :: st) h Q := xe_P_lo (ins := .iload_n 1) (len := 1) (by decide +kernel) rfl rfl
theorem xs_194_223 : xe_P d 194 223 ls (.int x :: st) h Q = (if x = 0 then xe_P d 194 226 ls st h Q else xe_P d 194 230 ls st h Q) := xe_P_ifn (ins := .ifCond .ne 7) (len := 3) (off := 7) (by decide +kernel) (by decide) rfl rfl rfl
theorem xs_194_226 : xe_P d 194 226 [l0, l1, l2, .int x, l4, l5, l6, l7] st h Q = xe_P d 194 227 [l0, l1, l2, .int x, l4, l5, l6, l7] (.int x :: st) h Q := xe_P_lo (ins := .iload_n 3) (len := 1) (by decide +kernel) rfl rfl
theorem xs_194_227 : xe_P d 194 227 ls st h Q = xe_P d 194 232 ls st h Q := xe_P_go (len := 3) (off := 5) (by decide +kernel) (by decide)
theorem xs_194_230 : xe_P d 194 230 [l0, l1, l2, l3, .int x, l5, l6, l7] st h Q = xe_P d 194 232 [l0, l1, l2, l3, .int x, l5, l6, l7] (.int x :: st) h Q := xe_P_lo (ins := .iload 4) (len := 2) (by decide +kernel) rfl rfl
theorem xs_194_232 : xe_P d 194 232 ls [.int x] h Q = Q (some (.int x)) h := xe_P_ireturn (by decide +kernel) rfl
theorem xs_194 : xe_C (d + 1) 194 [.ref a, .int x0] h Q = xe_P d 194 0 [.ref a, .int x0, .retAddr 0, .retAddr 0, .retAddr 0, .retAddr 0, .retAddr 0, .retAddr 0] [] h Q := xe_C_at (Nat.le_of_ble_eq_true rfl) rfl
end XSX7e
