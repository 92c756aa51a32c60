section XSJ1
variable {d : Nat} {l0 l1 l2 l3 l4 l5 l6 l7 l8 l9 l10 l11 v0 v1 v2 v3 v4 v5 : Value} {x v n x0 x1 x2 x3 x4 x5 : Int32} {w u w0 w1 w2 w3 : Int64} {a b a0 a1 a2 : Nat} {ls st : List Value} {h : xe_H} {Q : Option Value → xe_H → Prop}
theorem xs_208_0 : xe_P d 208 0 [l0, .int x] st h Q = xe_P d 208 1 [l0, .int x] (.int x :: st) h Q := xe_P_lo (ins := .iload_n 1) (len := 1) (by decide +kernel) rfl rfl
theorem xs_208_1 : xe_P d 208 1 [.ref a, l1] st h Q = xe_P d 208 2 [.ref a, l1] (.ref a :: st) h Q := xe_P_lo (ins := .aload_n 0) (len := 1) (by decide +kernel) rfl rfl
theorem xs_208_2 : xe_P d 208 2 ls (.ref a :: st) h Q = (xe_al h a ∧ xe_P d 208 3 ls (.int (Int32.ofNat (xe_N h a)) :: st) h Q) := xe_P_alen (by decide +kernel)
theorem xs_208_3 : xe_P d 208 3 ls (v1 :: v0 :: st) h Q = (xe_w st ≤ 8 ∧ xe_C d 207 [v0, v1] h (fun r h' => xe_P d 208 6 ls (r.toList ++ st) h' Q)) := xe_P_ivs (y := 208) (pc := 3) (z := 207) (i := 9) (vs := [v1, v0]) (by decide +kernel) (by decide +kernel) rfl
theorem xs_208_6 : xe_P d 208 6 [.ref a, l1] st h Q = xe_P d 208 7 [.ref a, l1] (.ref a :: st) h Q := xe_P_lo (ins := .aload_n 0) (len := 1) (by decide +kernel) rfl rfl
theorem xs_208_7 : xe_P d 208 7 [l0, .int x] st h Q = xe_P d 208 8 [l0, .int x] (.int x :: st) h Q := xe_P_lo (ins := .iload_n 1) (len := 1) (by decide +kernel) rfl rfl
theorem xs_208_8 : xe_P d 208 8 ls (.int v :: .ref a :: st) h Q = ((xe_ba h a ∧ xe_ix h a v) ∧ xe_P d 208 9 ls (.int (xe_I h a v.toNatClampNeg) :: st) h Q) := xe_P_bald (by decide +kernel)
theorem xs_208_9 : xe_P d 208 9 ls st h Q = xe_P d 208 12 ls (.int 255 :: st) h Q := xe_P_ar (ins := .sipush 255) (len := 3) (by decide +kernel) rfl
theorem xs_208_12 : xe_P d 208 12 ls (.int v :: .int x :: st) h Q = xe_P d 208 13 ls (.int (x &&& v) :: st) h Q := xe_P_ar (ins := .iand) (len := 1) (by decide +kernel) rfl
theorem xs_208_13 : xe_P d 208 13 ls (.int x :: st) h Q = xe_P d 208 14 ls (.int (x.toUInt32 % 65536).toInt32 :: st) h Q := xe_P_ar (ins := .i2c) (len := 1) (by decide +kernel) rfl
theorem xs_208_14 : xe_P d 208 14 ls [.int x] h Q = ((¬ x < 0 ∧ x ≤ 255) ∧ Q (some (.int x)) h) := xe_P_creturn (by decide +kernel) rfl
theorem xs_208 : xe_C (d + 1) 208 [.ref a0, .int x1] h Q = xe_P d 208 0 [.ref a0, .int x1] [] h Q := xe_C_at (Nat.le_of_ble_eq_true rfl) rfl
end XSJ1
