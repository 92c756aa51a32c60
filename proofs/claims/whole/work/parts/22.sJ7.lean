section XSJ7
variable {d : Nat} {l0 l1 l2 l3 l4 l5 l6 l7 l8 l9 l10 l11 v0 v1 v2 v3 v4 v5 : Value} {x v n x0 x1 x2 x3 x4 x5 : Int32} {w u w0 w1 w2 w3 : Int64} {a b a0 a1 a2 : Nat} {ls st : List Value} {h : xe_H} {Q : Option Value → xe_H → Prop}
theorem xs_213_0 : xe_P d 213 0 [l0, .int x, l2] st h Q = xe_P d 213 1 [l0, .int x, l2] (.int x :: st) h Q := xe_P_lo (ins := .iload_n 1) (len := 1) (by decide +kernel) rfl rfl
theorem xs_213_1 : xe_P d 213 1 [l0, l1, .int x] st h Q = xe_P d 213 2 [l0, l1, .int x] (.int x :: st) h Q := xe_P_lo (ins := .iload_n 2) (len := 1) (by decide +kernel) rfl rfl
theorem xs_213_2 : xe_P d 213 2 ls (.int v :: .int x :: st) h Q = (if x ≤ v then xe_P d 213 46 ls st h Q else xe_P d 213 5 ls st h Q) := xe_P_if (ins := .if_icmp .le 44) (len := 3) (off := 44) (by decide +kernel) (by decide) rfl rfl rfl
theorem xs_213_8 : xe_P d 213 8 ls (.ref a :: st) h Q = xe_P d 213 9 ls (.ref a :: .ref a :: st) h Q := xe_P_ar (ins := .dup) (len := 1) (by decide +kernel) rfl
theorem xs_213_8i : xe_P d 213 8 ls (.int x :: st) h Q = xe_P d 213 9 ls (.int x :: .int x :: st) h Q := xe_P_ar (ins := .dup) (len := 1) (by decide +kernel) rfl
theorem xs_213_12 : xe_P d 213 12 ls (.ref a :: st) h Q = xe_P d 213 13 ls (.ref a :: .ref a :: st) h Q := xe_P_ar (ins := .dup) (len := 1) (by decide +kernel) rfl
theorem xs_213_12i : xe_P d 213 12 ls (.int x :: st) h Q = xe_P d 213 13 ls (.int x :: .int x :: st) h Q := xe_P_ar (ins := .dup) (len := 1) (by decide +kernel) rfl
theorem xs_213_21 : xe_P d 213 21 [l0, .int x, l2] st h Q = xe_P d 213 22 [l0, .int x, l2] (.int x :: st) h Q := xe_P_lo (ins := .iload_n 1) (len := 1) (by decide +kernel) rfl rfl
theorem xs_213_30 : xe_P d 213 30 [l0, l1, .int x] st h Q = xe_P d 213 31 [l0, l1, .int x] (.int x :: st) h Q := xe_P_lo (ins := .iload_n 2) (len := 1) (by decide +kernel) rfl rfl
theorem xs_213_46 : xe_P d 213 46 [l0, .int x, l2] st h Q = xe_P d 213 47 [l0, .int x, l2] (.int x :: st) h Q := xe_P_lo (ins := .iload_n 1) (len := 1) (by decide +kernel) rfl rfl
theorem xs_213_47 : xe_P d 213 47 ls (.int x :: st) h Q = (if 0 ≤ x then xe_P d 213 59 ls st h Q else xe_P d 213 50 ls st h Q) := xe_P_if (ins := .ifCond .ge 12) (len := 3) (off := 12) (by decide +kernel) (by decide) rfl rfl rfl
theorem xs_213_53 : xe_P d 213 53 ls (.ref a :: st) h Q = xe_P d 213 54 ls (.ref a :: .ref a :: st) h Q := xe_P_ar (ins := .dup) (len := 1) (by decide +kernel) rfl
theorem xs_213_53i : xe_P d 213 53 ls (.int x :: st) h Q = xe_P d 213 54 ls (.int x :: .int x :: st) h Q := xe_P_ar (ins := .dup) (len := 1) (by decide +kernel) rfl
theorem xs_213_54 : xe_P d 213 54 [l0, .int x, l2] st h Q = xe_P d 213 55 [l0, .int x, l2] (.int x :: st) h Q := xe_P_lo (ins := .iload_n 1) (len := 1) (by decide +kernel) rfl rfl
theorem xs_213_59 : xe_P d 213 59 [l0, l1, .int x] st h Q = xe_P d 213 60 [l0, l1, .int x] (.int x :: st) h Q := xe_P_lo (ins := .iload_n 2) (len := 1) (by decide +kernel) rfl rfl
theorem xs_213_60 : xe_P d 213 60 [.int x, l1, l2] st h Q = xe_P d 213 61 [.int x, l1, l2] (.int x :: st) h Q := xe_P_lo (ins := .iload_n 0) (len := 1) (by decide +kernel) rfl rfl
theorem xs_213_61 : xe_P d 213 61 ls (.int v :: .int x :: st) h Q = (if x ≤ v then xe_P d 213 73 ls st h Q else xe_P d 213 64 ls st h Q) := xe_P_if (ins := .if_icmp .le 12) (len := 3) (off := 12) (by decide +kernel) (by decide) rfl rfl rfl
theorem xs_213_67 : xe_P d 213 67 ls (.ref a :: st) h Q = xe_P d 213 68 ls (.ref a :: .ref a :: st) h Q := xe_P_ar (ins := .dup) (len := 1) (by decide +kernel) rfl
theorem xs_213_67i : xe_P d 213 67 ls (.int x :: st) h Q = xe_P d 213 68 ls (.int x :: .int x :: st) h Q := xe_P_ar (ins := .dup) (len := 1) (by decide +kernel) rfl
theorem xs_213_68 : xe_P d 213 68 [l0, l1, .int x] st h Q = xe_P d 213 69 [l0, l1, .int x] (.int x :: st) h Q := xe_P_lo (ins := .iload_n 2) (len := 1) (by decide +kernel) rfl rfl
theorem xs_213_73 : xe_P d 213 73 ls [] h Q = Q none h := xe_P_vreturn (by decide +kernel) rfl
theorem xs_213 : xe_C (d + 1) 213 [.int x0, .int x1, .int x2] h Q = xe_P d 213 0 [.int x0, .int x1, .int x2] [] h Q := xe_C_at (Nat.le_of_ble_eq_true rfl) rfl
theorem xs_214_0 : xe_P d 214 0 [.ref a, l1, l2, l3, l4, l5] st h Q = xe_P d 214 1 [.ref a, l1, l2, l3, l4, l5] (.ref a :: st) h Q := xe_P_lo (ins := .aload_n 0) (len := 1) (by decide +kernel) rfl rfl
theorem xs_214_1 : xe_P d 214 1 ls (.ref a :: st) h Q = (xe_al h a ∧ xe_P d 214 2 ls (.int (Int32.ofNat (xe_N h a)) :: st) h Q) := xe_P_alen (by decide +kernel)
theorem xs_214_2 : xe_P d 214 2 [l0, .int x, l2, l3, l4, l5] st h Q = xe_P d 214 3 [l0, .int x, l2, l3, l4, l5] (.int x :: st) h Q := xe_P_lo (ins := .iload_n 1) (len := 1) (by decide +kernel) rfl rfl
theorem xs_214_3 : xe_P d 214 3 [l0, l1, .int x, l3, l4, l5] st h Q = xe_P d 214 4 [l0, l1, .int x, l3, l4, l5] (.int x :: st) h Q := xe_P_lo (ins := .iload_n 2) (len := 1) (by decide +kernel) rfl rfl
theorem xs_214_4 : xe_P d 214 4 ls (v2 :: v1 :: v0 :: st) h Q = (xe_w st ≤ 8 ∧ xe_C d 213 [v0, v1, v2] h (fun r h' => xe_P d 214 7 ls (r.toList ++ st) h' Q)) := xe_P_ivs (y := 214) (pc := 4) (z := 213) (i := 13) (vs := [v2, v1, v0]) (by decide +kernel) (by decide +kernel) rfl
theorem xs_214_7 : xe_P d 214 7 [l0, .int x, l2, l3, l4, l5] st h Q = xe_P d 214 8 [l0, .int x, l2, l3, l4, l5] (.int x :: st) h Q := xe_P_lo (ins := .iload_n 1) (len := 1) (by decide +kernel) rfl rfl
theorem xs_214_8 : xe_P d 214 8 [l0, l1, l2, l3, l4, l5] (.int x :: st) h Q = xe_P d 214 10 [l0, l1, l2, l3, xe_cut l4, .int x] st h Q := xe_P_lo (ins := .istore 5) (len := 2) (by decide +kernel) rfl rfl
theorem xs_214_10 : xe_P d 214 10 [l0, l1, l2, l3, l4, .int x] st h Q = xe_P d 214 12 [l0, l1, l2, l3, l4, .int x] (.int x :: st) h Q := xe_P_lo (ins := .iload 5) (len := 2) (by decide +kernel) rfl rfl
theorem xs_214_12 : xe_P d 214 12 [l0, l1, .int x, l3, l4, l5] st h Q = xe_P d 214 13 [l0, l1, .int x, l3, l4, l5] (.int x :: st) h Q := xe_P_lo (ins := .iload_n 2) (len := 1) (by decide +kernel) rfl rfl
theorem xs_214_13 : xe_P d 214 13 ls (.int v :: .int x :: st) h Q = (if v ≤ x then xe_P d 214 27 ls st h Q else xe_P d 214 16 ls st h Q) := xe_P_if (ins := .if_icmp .ge 14) (len := 3) (off := 14) (by decide +kernel) (by decide) rfl rfl rfl
theorem xs_214_16 : xe_P d 214 16 [.ref a, l1, l2, l3, l4, l5] st h Q = xe_P d 214 17 [.ref a, l1, l2, l3, l4, l5] (.ref a :: st) h Q := xe_P_lo (ins := .aload_n 0) (len := 1) (by decide +kernel) rfl rfl
theorem xs_214_17 : xe_P d 214 17 [l0, l1, l2, l3, l4, .int x] st h Q = xe_P d 214 19 [l0, l1, l2, l3, l4, .int x] (.int x :: st) h Q := xe_P_lo (ins := .iload 5) (len := 2) (by decide +kernel) rfl rfl
theorem xs_214_19 : xe_P d 214 19 [l0, l1, l2, .long w, l4, l5] st h Q = xe_P d 214 20 [l0, l1, l2, .long w, l4, l5] (.long w :: st) h Q := xe_P_lo (ins := .lload_n 3) (len := 1) (by decide +kernel) rfl rfl
theorem xs_214_20 : xe_P d 214 20 ls (.long w :: .int v :: .ref a :: st) h Q = ((xe_ob h a 9 ∧ xe_ix h a v) ∧ xe_P d 214 21 ls st (xe_sL2 h a v.toNatClampNeg w) Q) := xe_P_last (by decide +kernel)
theorem xs_214_21 : xe_P d 214 21 [l0, l1, l2, l3, l4, .int x] st h Q = xe_P d 214 24 [l0, l1, l2, l3, xe_cut l4, .int (x + 1)] st h Q := xe_P_lo (ins := .iinc 5 1) (len := 3) (by decide +kernel) rfl rfl
theorem xs_214_24 : xe_P d 214 24 ls st h Q = xe_P d 214 10 ls st h Q := xe_P_go (len := 3) (off := (-14)) (by decide +kernel) (by decide)
theorem xs_214_27 : xe_P d 214 27 ls [] h Q = Q none h := xe_P_vreturn (by decide +kernel) rfl
theorem xs_214 : xe_C (d + 1) 214 [.ref a0, .int x1, .int x2, .long w3] h Q = xe_P d 214 0 [.ref a0, .int x1, .int x2, .long w3, .retAddr 0, .retAddr 0] [] h Q := xe_C_at (Nat.le_of_ble_eq_true rfl) rfl
theorem xs_215_0 : xe_P d 215 0 ls st h Q = xe_P d 215 1 ls (.int 0 :: st) h Q := xe_P_ar (ins := .iconst 0) (len := 1) (by decide +kernel) rfl
theorem xs_215_1 : xe_P d 215 1 [l0, l1, l2, l3] (.int x :: st) h Q = xe_P d 215 2 [l0, xe_cut l1, .int x, l3] st h Q := xe_P_lo (ins := .istore_n 2) (len := 1) (by decide +kernel) rfl rfl
theorem xs_215_2 : xe_P d 215 2 [.ref a, l1, l2, l3] st h Q = xe_P d 215 3 [.ref a, l1, l2, l3] (.ref a :: st) h Q := xe_P_lo (ins := .aload_n 0) (len := 1) (by decide +kernel) rfl rfl
theorem xs_215_3 : xe_P d 215 3 ls (.ref a :: st) h Q = (xe_al h a ∧ xe_P d 215 4 ls (.int (Int32.ofNat (xe_N h a)) :: st) h Q) := xe_P_alen (by decide +kernel)
theorem xs_215_4 : xe_P d 215 4 [l0, l1, l2, l3] (.int x :: st) h Q = xe_P d 215 5 [l0, l1, xe_cut l2, .int x] st h Q := xe_P_lo (ins := .istore_n 3) (len := 1) (by decide +kernel) rfl rfl
theorem xs_215_5 : xe_P d 215 5 [l0, l1, .int x, l3] st h Q = xe_P d 215 6 [l0, l1, .int x, l3] (.int x :: st) h Q := xe_P_lo (ins := .iload_n 2) (len := 1) (by decide +kernel) rfl rfl
theorem xs_215_6 : xe_P d 215 6 [l0, l1, l2, .int x] st h Q = xe_P d 215 7 [l0, l1, l2, .int x] (.int x :: st) h Q := xe_P_lo (ins := .iload_n 3) (len := 1) (by decide +kernel) rfl rfl
theorem xs_215_7 : xe_P d 215 7 ls (.int v :: .int x :: st) h Q = (if v ≤ x then xe_P d 215 20 ls st h Q else xe_P d 215 10 ls st h Q) := xe_P_if (ins := .if_icmp .ge 13) (len := 3) (off := 13) (by decide +kernel) (by decide) rfl rfl rfl
theorem xs_215_10 : xe_P d 215 10 [.ref a, l1, l2, l3] st h Q = xe_P d 215 11 [.ref a, l1, l2, l3] (.ref a :: st) h Q := xe_P_lo (ins := .aload_n 0) (len := 1) (by decide +kernel) rfl rfl
theorem xs_215_11 : xe_P d 215 11 [l0, l1, .int x, l3] st h Q = xe_P d 215 12 [l0, l1, .int x, l3] (.int x :: st) h Q := xe_P_lo (ins := .iload_n 2) (len := 1) (by decide +kernel) rfl rfl
theorem xs_215_12 : xe_P d 215 12 [l0, .int x, l2, l3] st h Q = xe_P d 215 13 [l0, .int x, l2, l3] (.int x :: st) h Q := xe_P_lo (ins := .iload_n 1) (len := 1) (by decide +kernel) rfl rfl
theorem xs_215_13 : xe_P d 215 13 ls (.int x :: .int v :: .ref a :: st) h Q = ((xe_ob h a 8 ∧ xe_ix h a v) ∧ xe_P d 215 14 ls st (xe_sI h a v.toNatClampNeg x) Q) := xe_P_iast (by decide +kernel)
theorem xs_215_14 : xe_P d 215 14 [l0, l1, .int x, l3] st h Q = xe_P d 215 17 [l0, xe_cut l1, .int (x + 1), l3] st h Q := xe_P_lo (ins := .iinc 2 1) (len := 3) (by decide +kernel) rfl rfl
theorem xs_215_17 : xe_P d 215 17 ls st h Q = xe_P d 215 5 ls st h Q := xe_P_go (len := 3) (off := (-12)) (by decide +kernel) (by decide)
theorem xs_215_20 : xe_P d 215 20 ls [] h Q = Q none h := xe_P_vreturn (by decide +kernel) rfl
theorem xs_215 : xe_C (d + 1) 215 [.ref a0, .int x1] h Q = xe_P d 215 0 [.ref a0, .int x1, .retAddr 0, .retAddr 0] [] h Q := xe_C_at (Nat.le_of_ble_eq_true rfl) rfl
theorem xs_216_0 : xe_P d 216 0 [.ref a, l1, l2, l3, l4] st h Q = xe_P d 216 1 [.ref a, l1, l2, l3, l4] (.ref a :: st) h Q := xe_P_lo (ins := .aload_n 0) (len := 1) (by decide +kernel) rfl rfl
theorem xs_216_1 : xe_P d 216 1 ls (.ref a :: st) h Q = (xe_al h a ∧ xe_P d 216 2 ls (.int (Int32.ofNat (xe_N h a)) :: st) h Q) := xe_P_alen (by decide +kernel)
theorem xs_216_2 : xe_P d 216 2 [l0, .int x, l2, l3, l4] st h Q = xe_P d 216 3 [l0, .int x, l2, l3, l4] (.int x :: st) h Q := xe_P_lo (ins := .iload_n 1) (len := 1) (by decide +kernel) rfl rfl
theorem xs_216_3 : xe_P d 216 3 [l0, l1, .int x, l3, l4] st h Q = xe_P d 216 4 [l0, l1, .int x, l3, l4] (.int x :: st) h Q := xe_P_lo (ins := .iload_n 2) (len := 1) (by decide +kernel) rfl rfl
theorem xs_216_4 : xe_P d 216 4 ls (v2 :: v1 :: v0 :: st) h Q = (xe_w st ≤ 8 ∧ xe_C d 213 [v0, v1, v2] h (fun r h' => xe_P d 216 7 ls (r.toList ++ st) h' Q)) := xe_P_ivs (y := 216) (pc := 4) (z := 213) (i := 13) (vs := [v2, v1, v0]) (by decide +kernel) (by decide +kernel) rfl
theorem xs_216_7 : xe_P d 216 7 [l0, .int x, l2, l3, l4] st h Q = xe_P d 216 8 [l0, .int x, l2, l3, l4] (.int x :: st) h Q := xe_P_lo (ins := .iload_n 1) (len := 1) (by decide +kernel) rfl rfl
theorem xs_216_8 : xe_P d 216 8 [l0, l1, l2, l3, l4] (.int x :: st) h Q = xe_P d 216 10 [l0, l1, l2, xe_cut l3, .int x] st h Q := xe_P_lo (ins := .istore 4) (len := 2) (by decide +kernel) rfl rfl
theorem xs_216_10 : xe_P d 216 10 [l0, l1, l2, l3, .int x] st h Q = xe_P d 216 12 [l0, l1, l2, l3, .int x] (.int x :: st) h Q := xe_P_lo (ins := .iload 4) (len := 2) (by decide +kernel) rfl rfl
theorem xs_216_12 : xe_P d 216 12 [l0, l1, .int x, l3, l4] st h Q = xe_P d 216 13 [l0, l1, .int x, l3, l4] (.int x :: st) h Q := xe_P_lo (ins := .iload_n 2) (len := 1) (by decide +kernel) rfl rfl
theorem xs_216_13 : xe_P d 216 13 ls (.int v :: .int x :: st) h Q = (if v ≤ x then xe_P d 216 27 ls st h Q else xe_P d 216 16 ls st h Q) := xe_P_if (ins := .if_icmp .ge 14) (len := 3) (off := 14) (by decide +kernel) (by decide) rfl rfl rfl
theorem xs_216_16 : xe_P d 216 16 [.ref a, l1, l2, l3, l4] st h Q = xe_P d 216 17 [.ref a, l1, l2, l3, l4] (.ref a :: st) h Q := xe_P_lo (ins := .aload_n 0) (len := 1) (by decide +kernel) rfl rfl
theorem xs_216_17 : xe_P d 216 17 [l0, l1, l2, l3, .int x] st h Q = xe_P d 216 19 [l0, l1, l2, l3, .int x] (.int x :: st) h Q := xe_P_lo (ins := .iload 4) (len := 2) (by decide +kernel) rfl rfl
theorem xs_216_19 : xe_P d 216 19 [l0, l1, l2, .int x, l4] st h Q = xe_P d 216 20 [l0, l1, l2, .int x, l4] (.int x :: st) h Q := xe_P_lo (ins := .iload_n 3) (len := 1) (by decide +kernel) rfl rfl
theorem xs_216_20 : xe_P d 216 20 ls (.int x :: .int v :: .ref a :: st) h Q = ((xe_ob h a 8 ∧ xe_ix h a v) ∧ xe_P d 216 21 ls st (xe_sI h a v.toNatClampNeg x) Q) := xe_P_iast (by decide +kernel)
theorem xs_216_21 : xe_P d 216 21 [l0, l1, l2, l3, .int x] st h Q = xe_P d 216 24 [l0, l1, l2, xe_cut l3, .int (x + 1)] st h Q := xe_P_lo (ins := .iinc 4 1) (len := 3) (by decide +kernel) rfl rfl
theorem xs_216_24 : xe_P d 216 24 ls st h Q = xe_P d 216 10 ls st h Q := xe_P_go (len := 3) (off := (-14)) (by decide +kernel) (by decide)
theorem xs_216_27 : xe_P d 216 27 ls [] h Q = Q none h := xe_P_vreturn (by decide +kernel) rfl
theorem xs_216 : xe_C (d + 1) 216 [.ref a0, .int x1, .int x2, .int x3] h Q = xe_P d 216 0 [.ref a0, .int x1, .int x2, .int x3, .retAddr 0] [] h Q := xe_C_at (Nat.le_of_ble_eq_true rfl) rfl
theorem xs_217_0 : xe_P d 217 0 [l0, .int x, l2] st h Q = xe_P d 217 1 [l0, .int x, l2] (.int x :: st) h Q := xe_P_lo (ins := .iload_n 1) (len := 1) (by decide +kernel) rfl rfl
theorem xs_217_1 : xe_P d 217 1 [.ref a, l1, l2] st h Q = xe_P d 217 2 [.ref a, l1, l2] (.ref a :: st) h Q := xe_P_lo (ins := .aload_n 0) (len := 1) (by decide +kernel) rfl rfl
theorem xs_217_2 : xe_P d 217 2 ls (.ref a :: st) h Q = (xe_al h a ∧ xe_P d 217 3 ls (.int (Int32.ofNat (xe_N h a)) :: st) h Q) := xe_P_alen (by decide +kernel)
theorem xs_217_3 : xe_P d 217 3 ls (.int v :: .int x :: st) h Q = (if x = v then xe_P d 217 6 ls st h Q else xe_P d 217 14 ls st h Q) := xe_P_ifn (ins := .if_icmp .ne 11) (len := 3) (off := 11) (by decide +kernel) (by decide) rfl rfl rfl
theorem xs_217_6 : xe_P d 217 6 [.ref a, l1, l2] st h Q = xe_P d 217 7 [.ref a, l1, l2] (.ref a :: st) h Q := xe_P_lo (ins := .aload_n 0) (len := 1) (by decide +kernel) rfl rfl
theorem xs_217_13 : xe_P d 217 13 ls [.ref a] h Q = (a < xe_S ∧ Q (some (.ref a)) h) := xe_P_areturn (by decide +kernel) rfl
theorem xs_217_14 : xe_P d 217 14 [l0, .int x, l2] st h Q = xe_P d 217 15 [l0, .int x, l2] (.int x :: st) h Q := xe_P_lo (ins := .iload_n 1) (len := 1) (by decide +kernel) rfl rfl
theorem xs_217_15 : xe_P d 217 15 ls (.int v :: st) h Q = ((¬ v < 0 ∧ v.toNatClampNeg ≤ 200000 ∧ xe_n h < xe_S) ∧ xe_P d 217 17 ls (.ref (xe_n h) :: st) (xe_new h 9 v.toNatClampNeg) Q) := xe_P_newa (t := .long) (by decide +kernel) (by decide)
theorem xs_217_17 (hx : a < xe_S) : xe_P d 217 17 [l0, l1, l2] (.ref a :: st) h Q = xe_P d 217 18 [l0, xe_cut l1, .ref a] st h Q := xe_P_lo (ins := .astore_n 2) (len := 1) (by decide +kernel) rfl (by simp only [xe_lo, xe_stA, if_pos hx]; rfl)
theorem xs_217_18 : xe_P d 217 18 [.ref a, l1, l2] st h Q = xe_P d 217 19 [.ref a, l1, l2] (.ref a :: st) h Q := xe_P_lo (ins := .aload_n 0) (len := 1) (by decide +kernel) rfl rfl
theorem xs_217_19 : xe_P d 217 19 ls st h Q = xe_P d 217 20 ls (.int 0 :: st) h Q := xe_P_ar (ins := .iconst 0) (len := 1) (by decide +kernel) rfl
theorem xs_217_20 : xe_P d 217 20 [l0, l1, .ref a] st h Q = xe_P d 217 21 [l0, l1, .ref a] (.ref a :: st) h Q := xe_P_lo (ins := .aload_n 2) (len := 1) (by decide +kernel) rfl rfl
theorem xs_217_21 : xe_P d 217 21 ls st h Q = xe_P d 217 22 ls (.int 0 :: st) h Q := xe_P_ar (ins := .iconst 0) (len := 1) (by decide +kernel) rfl
theorem xs_217_22 : xe_P d 217 22 [.ref a, l1, l2] st h Q = xe_P d 217 23 [.ref a, l1, l2] (.ref a :: st) h Q := xe_P_lo (ins := .aload_n 0) (len := 1) (by decide +kernel) rfl rfl
theorem xs_217_23 : xe_P d 217 23 ls (.ref a :: st) h Q = (xe_al h a ∧ xe_P d 217 24 ls (.int (Int32.ofNat (xe_N h a)) :: st) h Q) := xe_P_alen (by decide +kernel)
theorem xs_217_24 : xe_P d 217 24 [l0, .int x, l2] st h Q = xe_P d 217 25 [l0, .int x, l2] (.int x :: st) h Q := xe_P_lo (ins := .iload_n 1) (len := 1) (by decide +kernel) rfl rfl
theorem xs_217_25 : xe_P d 217 25 ls (.int v :: .int x :: st) h Q = (xe_w st ≤ 8 ∧ xe_P d 217 28 ls (.int (if v < x then v else x) :: st) h Q) := xe_P_min (i := 304) (by decide +kernel) (by decide +kernel)
theorem xs_217_28 (hA : xe_T h a = 9) (hB : xe_T h b = 9) : xe_P d 217 28 ls (.int n :: .int v :: .ref b :: .int x :: .ref a :: st) h Q = ((xe_w st ≤ 8 ∧ a < xe_n h ∧ b < xe_n h ∧ ¬ x < 0 ∧ ¬ v < 0 ∧ ¬ n < 0 ∧ x.toNatClampNeg + n.toNatClampNeg ≤ xe_N h a ∧ v.toNatClampNeg + n.toNatClampNeg ≤ xe_N h b) ∧ xe_P d 217 31 ls st (xe_aL2 h b (va_cpy (xe_L h a) (xe_L h b) x.toNatClampNeg v.toNatClampNeg n.toNatClampNeg)) Q) := xe_P_cpyL (i := 150) (by decide +kernel) (by decide +kernel) hA hB
theorem xs_217_31 : xe_P d 217 31 [l0, l1, .ref a] st h Q = xe_P d 217 32 [l0, l1, .ref a] (.ref a :: st) h Q := xe_P_lo (ins := .aload_n 2) (len := 1) (by decide +kernel) rfl rfl
theorem xs_217_32 : xe_P d 217 32 ls [.ref a] h Q = (a < xe_S ∧ Q (some (.ref a)) h) := xe_P_areturn (by decide +kernel) rfl
theorem xs_217 : xe_C (d + 1) 217 [.ref a0, .int x1] h Q = xe_P d 217 0 [.ref a0, .int x1, .retAddr 0] [] h Q := xe_C_at (Nat.le_of_ble_eq_true rfl) rfl
end XSJ7
