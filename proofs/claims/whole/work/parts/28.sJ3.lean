section XSJ3
variable {d : Nat} {l0 l1 l2 l3 l4 l5 l6 l7 l8 l9 l10 l11 v0 v1 v2 v3 v4 v5 : Value} {x v n x0 x1 x2 x3 x4 x5 : Int32} {w u w0 w1 w2 w3 : Int64} {a b a0 a1 a2 : Nat} {ls st : List Value} {h : xe_H} {Q : Option Value → xe_H → Prop}
theorem xs_218_0 : xe_P d 218 0 [.int x, l1, l2] st h Q = xe_P d 218 1 [.int x, l1, l2] (.int x :: st) h Q := xe_P_lo (ins := .iload_n 0) (len := 1) (by decide +kernel) rfl rfl
theorem xs_218_1 : xe_P d 218 1 ls (.int x :: st) h Q = (if x < 0 then xe_P d 218 9 ls st h Q else xe_P d 218 4 ls st h Q) := xe_P_if (ins := .ifCond .lt 8) (len := 3) (off := 8) (by decide +kernel) (by decide) rfl rfl rfl
theorem xs_218_4 : xe_P d 218 4 [.int x, l1, l2] st h Q = xe_P d 218 5 [.int x, l1, l2] (.int x :: st) h Q := xe_P_lo (ins := .iload_n 0) (len := 1) (by decide +kernel) rfl rfl
theorem xs_218_5 : xe_P d 218 5 [l0, .int x, l2] st h Q = xe_P d 218 6 [l0, .int x, l2] (.int x :: st) h Q := xe_P_lo (ins := .iload_n 1) (len := 1) (by decide +kernel) rfl rfl
theorem xs_218_6 : xe_P d 218 6 ls (.int v :: .int x :: st) h Q = (if x < v then xe_P d 218 16 ls st h Q else xe_P d 218 9 ls st h Q) := xe_P_if (ins := .if_icmp .lt 10) (len := 3) (off := 10) (by decide +kernel) (by decide) rfl rfl rfl
theorem xs_218_9 : xe_P d 218 9 [l0, l1, .ref a] st h Q = xe_P d 218 10 [l0, l1, .ref a] (.ref a :: st) h Q := xe_P_lo (ins := .aload_n 2) (len := 1) (by decide +kernel) rfl rfl
theorem xs_218_10 : xe_P d 218 10 [.int x, l1, l2] st h Q = xe_P d 218 11 [.int x, l1, l2] (.int x :: st) h Q := xe_P_lo (ins := .iload_n 0) (len := 1) (by decide +kernel) rfl rfl
theorem xs_218_11 : xe_P d 218 11 [l0, .int x, l2] st h Q = xe_P d 218 12 [l0, .int x, l2] (.int x :: st) h Q := xe_P_lo (ins := .iload_n 1) (len := 1) (by decide +kernel) rfl rfl
theorem xs_218_16 : xe_P d 218 16 [.int x, l1, l2] st h Q = xe_P d 218 17 [.int x, l1, l2] (.int x :: st) h Q := xe_P_lo (ins := .iload_n 0) (len := 1) (by decide +kernel) rfl rfl
theorem xs_218_17 : xe_P d 218 17 ls [.int x] h Q = Q (some (.int x)) h := xe_P_ireturn (by decide +kernel) rfl
theorem xs_218 : xe_C (d + 1) 218 [.int x0, .int x1, .ref a2] h Q = xe_P d 218 0 [.int x0, .int x1, .ref a2] [] h Q := xe_C_at (Nat.le_of_ble_eq_true rfl) rfl
end XSJ3
