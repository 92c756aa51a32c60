section XSJ0
variable {d : Nat} {l0 l1 l2 l3 l4 l5 l6 l7 l8 l9 l10 l11 v0 v1 v2 v3 v4 v5 : Value} {x v n x0 x1 x2 x3 x4 x5 : Int32} {w u w0 w1 w2 w3 : Int64} {a b a0 a1 a2 : Nat} {ls st : List Value} {h : xe_H} {Q : Option Value → xe_H → Prop}
theorem xs_203_0 : xe_P d 203 0 [.ref a] st h Q = xe_P d 203 1 [.ref a] (.ref a :: st) h Q := xe_P_lo (ins := .aload_n 0) (len := 1) (by decide +kernel) rfl rfl
theorem xs_203_1 : xe_P d 203 1 ls (.ref a :: st) h Q = ((xe_S + 5 ≤ a ∧ a < xe_S + 12) ∧ xe_P d 203 4 ls (.ref (a + 7) :: st) h Q) := xe_P_getS (y := 203) (pc := 1) (k := 0) (i := 9) (by decide +kernel) (by decide +kernel)
theorem xs_203_4 : xe_P d 203 4 ls (.ref a :: st) h Q = (xe_al h a ∧ xe_P d 203 5 ls (.int (Int32.ofNat (xe_N h a)) :: st) h Q) := xe_P_alen (by decide +kernel)
theorem xs_203_5 : xe_P d 203 5 [.ref a] st h Q = xe_P d 203 6 [.ref a] (.ref a :: st) h Q := xe_P_lo (ins := .aload_n 0) (len := 1) (by decide +kernel) rfl rfl
theorem xs_203_6 : xe_P d 203 6 ls (.ref a :: st) h Q = ((xe_w st ≤ 8 ∧ xe_S + 5 ≤ a ∧ a < xe_S + 12) ∧ xe_C d 205 [.ref a] h (fun r h' => xe_P d 203 9 ls (r.toList ++ st) h' Q)) := xe_P_ivstr (y := 203) (pc := 6) (z := 205) (i := 335) (vs := []) (by decide +kernel) (by decide +kernel) rfl (by decide +kernel)
theorem xs_203_9 : xe_P d 203 9 ls (.int v :: .int x :: st) h Q = xe_P d 203 10 ls (.int (x >>> (v &&& 31)) :: st) h Q := xe_P_ar (ins := .ishr) (len := 1) (by decide +kernel) rfl
theorem xs_203_10 : xe_P d 203 10 ls [.int x] h Q = Q (some (.int x)) h := xe_P_ireturn (by decide +kernel) rfl
theorem xs_203 : xe_C (d + 1) 203 [.ref a] h Q = xe_P d 203 0 [.ref a] [] h Q := xe_C_at (Nat.le_of_ble_eq_true rfl) rfl
theorem xs_204_0 : xe_P d 204 0 [.ref a, l1] st h Q = xe_P d 204 1 [.ref a, l1] (.ref a :: st) h Q := xe_P_lo (ins := .aload_n 0) (len := 1) (by decide +kernel) rfl rfl
theorem xs_204_1 : xe_P d 204 1 ls (.ref a :: st) h Q = ((xe_w st ≤ 8 ∧ xe_S + 5 ≤ a ∧ a < xe_S + 12) ∧ xe_C d 206 [.ref a] h (fun r h' => xe_P d 204 4 ls (r.toList ++ st) h' Q)) := xe_P_ivstr (y := 204) (pc := 1) (z := 206) (i := 492) (vs := []) (by decide +kernel) (by decide +kernel) rfl (by decide +kernel)
theorem xs_204_4 : xe_P d 204 4 ls (.int x :: st) h Q = (if x = 0 then xe_P d 204 16 ls st h Q else xe_P d 204 7 ls st h Q) := xe_P_if (ins := .ifCond .eq 12) (len := 3) (off := 12) (by decide +kernel) (by decide) rfl rfl rfl
theorem xs_204_7 : xe_P d 204 7 [.ref a, l1] st h Q = xe_P d 204 8 [.ref a, l1] (.ref a :: st) h Q := xe_P_lo (ins := .aload_n 0) (len := 1) (by decide +kernel) rfl rfl
theorem xs_204_8 : xe_P d 204 8 ls (.ref a :: st) h Q = ((xe_S + 5 ≤ a ∧ a < xe_S + 12) ∧ xe_P d 204 11 ls (.ref (a + 7) :: st) h Q) := xe_P_getS (y := 204) (pc := 8) (k := 0) (i := 9) (by decide +kernel) (by decide +kernel)
theorem xs_204_11 : xe_P d 204 11 [l0, .int x] st h Q = xe_P d 204 12 [l0, .int x] (.int x :: st) h Q := xe_P_lo (ins := .iload_n 1) (len := 1) (by decide +kernel) rfl rfl
theorem xs_204_12 : xe_P d 204 12 ls (v1 :: v0 :: st) h Q = (xe_w st ≤ 8 ∧ xe_C d 208 [v0, v1] h (fun r h' => xe_P d 204 15 ls (r.toList ++ st) h' Q)) := xe_P_ivs (y := 204) (pc := 12) (z := 208) (i := 495) (vs := [v1, v0]) (by decide +kernel) (by decide +kernel) rfl
theorem xs_204_15 : xe_P d 204 15 ls [.int x] h Q = ((¬ x < 0 ∧ x ≤ 255) ∧ Q (some (.int x)) h) := xe_P_creturn (by decide +kernel) rfl
theorem xs_204_16 : xe_P d 204 16 [.ref a, l1] st h Q = xe_P d 204 17 [.ref a, l1] (.ref a :: st) h Q := xe_P_lo (ins := .aload_n 0) (len := 1) (by decide +kernel) rfl rfl
theorem xs_204_17 : xe_P d 204 17 ls (.ref a :: st) h Q = ((xe_S + 5 ≤ a ∧ a < xe_S + 12) ∧ xe_P d 204 20 ls (.ref (a + 7) :: st) h Q) := xe_P_getS (y := 204) (pc := 17) (k := 0) (i := 9) (by decide +kernel) (by decide +kernel)
theorem xs_204_20 : xe_P d 204 20 [l0, .int x] st h Q = xe_P d 204 21 [l0, .int x] (.int x :: st) h Q := xe_P_lo (ins := .iload_n 1) (len := 1) (by decide +kernel) rfl rfl
theorem xs_204_21 : xe_P d 204 21 ls (v1 :: v0 :: st) h Q = (xe_w st ≤ 8 ∧ xe_C d 211 [v0, v1] h (fun r h' => xe_P d 204 24 ls (r.toList ++ st) h' Q)) := xe_P_ivs (y := 204) (pc := 21) (z := 211) (i := 498) (vs := [v1, v0]) (by decide +kernel) (by decide +kernel) rfl
theorem xs_204_24 : xe_P d 204 24 ls [.int x] h Q = ((¬ x < 0 ∧ x ≤ 255) ∧ Q (some (.int x)) h) := xe_P_creturn (by decide +kernel) rfl
theorem xs_204 : xe_C (d + 1) 204 [.ref a, .int x0] h Q = xe_P d 204 0 [.ref a, .int x0] [] h Q := xe_C_at (Nat.le_of_ble_eq_true rfl) rfl
theorem xs_205_0 : xe_P d 205 0 ls st h Q = xe_P d 205 3 ls (.int 1 :: st) h Q := xe_P_gets1 (j := 38) (by decide +kernel) (by decide +kernel)
theorem xs_205_3 : xe_P d 205 3 ls (.int x :: st) h Q = (if x = 0 then xe_P d 205 13 ls st h Q else xe_P d 205 6 ls st h Q) := xe_P_if (ins := .ifCond .eq 10) (len := 3) (off := 10) (by decide +kernel) (by decide) rfl rfl rfl
theorem xs_205_6 : xe_P d 205 6 [.ref a] st h Q = xe_P d 205 7 [.ref a] (.ref a :: st) h Q := xe_P_lo (ins := .aload_n 0) (len := 1) (by decide +kernel) rfl rfl
theorem xs_205_7 : xe_P d 205 7 ls (.ref a :: st) h Q = ((xe_S + 5 ≤ a ∧ a < xe_S + 12) ∧ xe_P d 205 10 ls (.int 0 :: st) h Q) := xe_P_getS (y := 205) (pc := 7) (k := 1) (i := 15) (by decide +kernel) (by decide +kernel)
theorem xs_205_10 : xe_P d 205 10 ls st h Q = xe_P d 205 14 ls st h Q := xe_P_go (len := 3) (off := 4) (by decide +kernel) (by decide)
theorem xs_205_13 : xe_P d 205 13 ls st h Q = xe_P d 205 14 ls (.int 1 :: st) h Q := xe_P_ar (ins := .iconst 1) (len := 1) (by decide +kernel) rfl
theorem xs_205_14 : xe_P d 205 14 ls [.int x] h Q = (x = 0 ∧ Q (some (.int x)) h) := xe_P_breturn (by decide +kernel) rfl
theorem xs_205 : xe_C (d + 1) 205 [.ref a] h Q = xe_P d 205 0 [.ref a] [] h Q := xe_C_at (Nat.le_of_ble_eq_true rfl) rfl
theorem xs_206_0 : xe_P d 206 0 ls st h Q = xe_P d 206 3 ls (.int 1 :: st) h Q := xe_P_gets1 (j := 38) (by decide +kernel) (by decide +kernel)
theorem xs_206_3 : xe_P d 206 3 ls (.int x :: st) h Q = (if x = 0 then xe_P d 206 17 ls st h Q else xe_P d 206 6 ls st h Q) := xe_P_if (ins := .ifCond .eq 14) (len := 3) (off := 14) (by decide +kernel) (by decide) rfl rfl rfl
theorem xs_206_6 : xe_P d 206 6 [.ref a] st h Q = xe_P d 206 7 [.ref a] (.ref a :: st) h Q := xe_P_lo (ins := .aload_n 0) (len := 1) (by decide +kernel) rfl rfl
theorem xs_206_7 : xe_P d 206 7 ls (.ref a :: st) h Q = ((xe_S + 5 ≤ a ∧ a < xe_S + 12) ∧ xe_P d 206 10 ls (.int 0 :: st) h Q) := xe_P_getS (y := 206) (pc := 7) (k := 1) (i := 15) (by decide +kernel) (by decide +kernel)
theorem xs_206_10 : xe_P d 206 10 ls (.int x :: st) h Q = (if x = 0 then xe_P d 206 13 ls st h Q else xe_P d 206 17 ls st h Q) := xe_P_ifn (ins := .ifCond .ne 7) (len := 3) (off := 7) (by decide +kernel) (by decide) rfl rfl rfl
theorem xs_206_13 : xe_P d 206 13 ls st h Q = xe_P d 206 14 ls (.int 1 :: st) h Q := xe_P_ar (ins := .iconst 1) (len := 1) (by decide +kernel) rfl
theorem xs_206_14 : xe_P d 206 14 ls st h Q = xe_P d 206 18 ls st h Q := xe_P_go (len := 3) (off := 4) (by decide +kernel) (by decide)
theorem xs_206_17 : xe_P d 206 17 ls st h Q = xe_P d 206 18 ls (.int 0 :: st) h Q := xe_P_ar (ins := .iconst 0) (len := 1) (by decide +kernel) rfl
theorem xs_206_18 : xe_P d 206 18 ls [.int x] h Q = ((x = 0 ∨ x = 1) ∧ Q (some (.int x)) h) := xe_P_zreturn (by decide +kernel) rfl
theorem xs_206 : xe_C (d + 1) 206 [.ref a] h Q = xe_P d 206 0 [.ref a] [] h Q := xe_C_at (Nat.le_of_ble_eq_true rfl) rfl
theorem xs_207_0 : xe_P d 207 0 [.int x, l1] st h Q = xe_P d 207 1 [.int x, l1] (.int x :: st) h Q := xe_P_lo (ins := .iload_n 0) (len := 1) (by decide +kernel) rfl rfl
theorem xs_207_1 : xe_P d 207 1 [l0, .int x] st h Q = xe_P d 207 2 [l0, .int x] (.int x :: st) h Q := xe_P_lo (ins := .iload_n 1) (len := 1) (by decide +kernel) rfl rfl
theorem xs_207_2 : xe_P d 207 2 ls st h Q = xe_P d 207 5 ls (.ref (xe_S + 19) :: st) h Q := xe_P_gets (j := 1053) (by decide +kernel) (by decide +kernel) (by decide)
theorem xs_207_5 : xe_P d 207 5 ls (v2 :: v1 :: v0 :: st) h Q = (xe_w st ≤ 8 ∧ xe_C d 218 [v0, v1, v2] h (fun r h' => xe_P d 207 8 ls (r.toList ++ st) h' Q)) := xe_P_ivs (y := 207) (pc := 5) (z := 218) (i := 1059) (vs := [v2, v1, v0]) (by decide +kernel) (by decide +kernel) rfl
theorem xs_207_8 : xe_P d 207 8 ls (.int x :: st) h Q = xe_P d 207 9 ls st h Q := xe_P_ar (ins := .pop) (len := 1) (by decide +kernel) rfl
theorem xs_207_9 : xe_P d 207 9 ls [] h Q = Q none h := xe_P_vreturn (by decide +kernel) rfl
theorem xs_207 : xe_C (d + 1) 207 [.int x0, .int x1] h Q = xe_P d 207 0 [.int x0, .int x1] [] h Q := xe_C_at (Nat.le_of_ble_eq_true rfl) rfl
end XSJ0
