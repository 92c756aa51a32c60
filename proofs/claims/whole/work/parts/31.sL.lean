section XSL
variable {d : Nat} {l0 l1 l2 l3 l4 l5 l6 l7 l8 l9 l10 l11 v0 v1 v2 v3 v4 v5 : Value} {x v n x0 x1 x2 x3 x4 x5 : Int32} {w u w0 w1 w2 w3 : Int64} {a b a0 a1 a2 : Nat} {ls st : List Value} {h : xe_H} {Q : Option Value → xe_H → Prop}
theorem xs_219_0 : xe_P d 219 0 ls st h Q = (xe_n h < xe_S ∧ xe_P d 219 3 ls (.ref (xe_n h) :: st) (xe_new h 6 10) Q) := xe_P_new (j := 7) (by decide +kernel) (by decide +kernel) (by decide)
theorem xs_219_3 : xe_P d 219 3 ls (.ref a :: st) h Q = xe_P d 219 4 ls (.ref a :: .ref a :: st) h Q := xe_P_ar (ins := .dup) (len := 1) (by decide +kernel) rfl
theorem xs_219_3i : xe_P d 219 3 ls (.int x :: st) h Q = xe_P d 219 4 ls (.int x :: .int x :: st) h Q := xe_P_ar (ins := .dup) (len := 1) (by decide +kernel) rfl
theorem xs_219_4 : xe_P d 219 4 ls (.ref a :: st) h Q = ((xe_w st ≤ 8 ∧ a < xe_n h ∧ xe_n h ≤ xe_S) ∧ xe_C d 82 [.ref a] h (fun r h' => xe_P d 219 7 ls (r.toList ++ st) h' Q)) := xe_P_ivi (y := 219) (pc := 4) (z := 82) (i := 9) (k := 2) (vs := []) (by decide +kernel) (by decide +kernel) (by decide) rfl
theorem xs_219_7 (hx : a < xe_S) : xe_P d 219 7 [l0, l1, l2, l3] (.ref a :: st) h Q = xe_P d 219 8 [xe_cut l0, .ref a, l2, l3] st h Q := xe_P_lo (ins := .astore_n 1) (len := 1) (by decide +kernel) rfl (by simp only [xe_lo, xe_stA, if_pos hx]; rfl)
theorem xs_219_8 : xe_P d 219 8 ls st h Q = (xe_n h < xe_S ∧ xe_P d 219 11 ls (.ref (xe_n h) :: st) (xe_new h 7 41) Q) := xe_P_new (j := 10) (by decide +kernel) (by decide +kernel) (by decide)
theorem xs_219_11 : xe_P d 219 11 ls (.ref a :: st) h Q = xe_P d 219 12 ls (.ref a :: .ref a :: st) h Q := xe_P_ar (ins := .dup) (len := 1) (by decide +kernel) rfl
theorem xs_219_11i : xe_P d 219 11 ls (.int x :: st) h Q = xe_P d 219 12 ls (.int x :: .int x :: st) h Q := xe_P_ar (ins := .dup) (len := 1) (by decide +kernel) rfl
theorem xs_219_12 : xe_P d 219 12 ls (.ref a :: st) h Q = ((xe_w st ≤ 8 ∧ a < xe_n h ∧ xe_n h ≤ xe_S) ∧ xe_C d 119 [.ref a] h (fun r h' => xe_P d 219 15 ls (r.toList ++ st) h' Q)) := xe_P_ivi (y := 219) (pc := 12) (z := 119) (i := 12) (k := 2) (vs := []) (by decide +kernel) (by decide +kernel) (by decide) rfl
theorem xs_219_15 (hx : a < xe_S) : xe_P d 219 15 [l0, l1, l2, l3] (.ref a :: st) h Q = xe_P d 219 16 [l0, xe_cut l1, .ref a, l3] st h Q := xe_P_lo (ins := .astore_n 2) (len := 1) (by decide +kernel) rfl (by simp only [xe_lo, xe_stA, if_pos hx]; rfl)
theorem xs_219_16 : xe_P d 219 16 ls st h Q = xe_P d 219 17 ls (.int 0 :: st) h Q := xe_P_ar (ins := .iconst 0) (len := 1) (by decide +kernel) rfl
theorem xs_219_17 : xe_P d 219 17 [l0, l1, l2, l3] (.int x :: st) h Q = xe_P d 219 18 [l0, l1, xe_cut l2, .int x] st h Q := xe_P_lo (ins := .istore_n 3) (len := 1) (by decide +kernel) rfl rfl
theorem xs_219_18 : xe_P d 219 18 [l0, l1, l2, .int x] st h Q = xe_P d 219 19 [l0, l1, l2, .int x] (.int x :: st) h Q := xe_P_lo (ins := .iload_n 3) (len := 1) (by decide +kernel) rfl rfl
theorem xs_219_19 : xe_P d 219 19 [.ref a, l1, l2, l3] st h Q = xe_P d 219 20 [.ref a, l1, l2, l3] (.ref a :: st) h Q := xe_P_lo (ins := .aload_n 0) (len := 1) (by decide +kernel) rfl rfl
theorem xs_219_20 : xe_P d 219 20 ls (.ref a :: st) h Q = (xe_al h a ∧ xe_P d 219 21 ls (.int (Int32.ofNat (xe_N h a)) :: st) h Q) := xe_P_alen (by decide +kernel)
theorem xs_219_21 : xe_P d 219 21 ls st h Q = xe_P d 219 22 ls (.int 5 :: st) h Q := xe_P_ar (ins := .iconst 5) (len := 1) (by decide +kernel) rfl
theorem xs_219_22 : xe_P d 219 22 ls (.int v :: .int x :: st) h Q = xe_P d 219 23 ls (.int (x - v) :: st) h Q := xe_P_ar (ins := .isub) (len := 1) (by decide +kernel) rfl
theorem xs_219_23 : xe_P d 219 23 ls (.int v :: .int x :: st) h Q = (if v < x then xe_P d 219 1222 ls st h Q else xe_P d 219 26 ls st h Q) := xe_P_if (ins := .if_icmp .gt 1199) (len := 3) (off := 1199) (by decide +kernel) (by decide) rfl rfl rfl
theorem xs_219_26 : xe_P d 219 26 [.ref a, l1, l2, l3] st h Q = xe_P d 219 27 [.ref a, l1, l2, l3] (.ref a :: st) h Q := xe_P_lo (ins := .aload_n 0) (len := 1) (by decide +kernel) rfl rfl
theorem xs_219_27 : xe_P d 219 27 [l0, l1, l2, .int x] st h Q = xe_P d 219 28 [l0, l1, l2, .int x] (.int x :: st) h Q := xe_P_lo (ins := .iload_n 3) (len := 1) (by decide +kernel) rfl rfl
theorem xs_219_28 : xe_P d 219 28 ls (.int v :: .ref a :: st) h Q = ((xe_ia h a ∧ xe_ix h a v) ∧ xe_P d 219 29 ls (.int (xe_I h a v.toNatClampNeg) :: st) h Q) := xe_P_iald (by decide +kernel)
theorem xs_219_29 : xe_P d 219 29 ls st h Q = xe_P d 219 31 ls (.int 63 :: st) h Q := xe_P_ar (ins := .bipush 63) (len := 2) (by decide +kernel) rfl
theorem xs_219_31 : xe_P d 219 31 ls (.int v :: .int x :: st) h Q = xe_P d 219 32 ls (.int (x &&& v) :: st) h Q := xe_P_ar (ins := .iand) (len := 1) (by decide +kernel) rfl
theorem xs_219_32 : xe_P d 219 32 ls (.int x :: st) h Q = (if x = 0 then xe_P d 219 180 ls st h Q else (if x = 1 then xe_P d 219 233 ls st h Q else (if x = 2 then xe_P d 219 256 ls st h Q else (if x = 3 then xe_P d 219 269 ls st h Q else (if x = 4 then xe_P d 219 282 ls st h Q else (if x = 5 then xe_P d 219 305 ls st h Q else (if x = 6 then xe_P d 219 338 ls st h Q else (if x = 7 then xe_P d 219 371 ls st h Q else (if x = 8 then xe_P d 219 394 ls st h Q else (if x = 9 then xe_P d 219 417 ls st h Q else (if x = 10 then xe_P d 219 450 ls st h Q else (if x = 11 then xe_P d 219 483 ls st h Q else (if x = 12 then xe_P d 219 526 ls st h Q else (if x = 13 then xe_P d 219 549 ls st h Q else (if x = 14 then xe_P d 219 582 ls st h Q else (if x = 15 then xe_P d 219 605 ls st h Q else (if x = 16 then xe_P d 219 648 ls st h Q else (if x = 17 then xe_P d 219 661 ls st h Q else (if x = 18 then xe_P d 219 714 ls st h Q else (if x = 19 then xe_P d 219 767 ls st h Q else (if x = 20 then xe_P d 219 800 ls st h Q else (if x = 21 then xe_P d 219 844 ls st h Q else (if x = 22 then xe_P d 219 903 ls st h Q else (if x = 23 then xe_P d 219 926 ls st h Q else (if x = 24 then xe_P d 219 949 ls st h Q else (if x = 25 then xe_P d 219 972 ls st h Q else (if x = 26 then xe_P d 219 995 ls st h Q else (if x = 27 then xe_P d 219 1018 ls st h Q else (if x = 28 then xe_P d 219 1041 ls st h Q else (if x = 29 then xe_P d 219 1084 ls st h Q else (if x = 30 then xe_P d 219 1127 ls st h Q else (if x = 31 then xe_P d 219 1180 ls st h Q else (if x = 32 then xe_P d 219 1193 ls st h Q else xe_P d 219 1216 ls st h Q))))))))))))))))))))))))))))))))) := (xe_P_sw (dflt := 1184) (hi := 32) (offs := #[148, 201, 224, 237, 250, 273, 306, 339, 362, 385, 418, 451, 494, 517, 550, 573, 616, 629, 682, 735, 768, 812, 871, 894, 917, 940, 963, 986, 1009, 1052, 1095, 1148, 1161]) (len := 148) (by decide +kernel) (by decide) (by decide)).trans rfl
theorem xs_219_180 : xe_P d 219 180 [l0, .ref a, l2, l3] st h Q = xe_P d 219 181 [l0, .ref a, l2, l3] (.ref a :: st) h Q := xe_P_lo (ins := .aload_n 1) (len := 1) (by decide +kernel) rfl rfl
theorem xs_219_181 : xe_P d 219 181 [.ref a, l1, l2, l3] st h Q = xe_P d 219 182 [.ref a, l1, l2, l3] (.ref a :: st) h Q := xe_P_lo (ins := .aload_n 0) (len := 1) (by decide +kernel) rfl rfl
theorem xs_219_182 : xe_P d 219 182 [l0, l1, l2, .int x] st h Q = xe_P d 219 183 [l0, l1, l2, .int x] (.int x :: st) h Q := xe_P_lo (ins := .iload_n 3) (len := 1) (by decide +kernel) rfl rfl
theorem xs_219_183 : xe_P d 219 183 ls st h Q = xe_P d 219 184 ls (.int 1 :: st) h Q := xe_P_ar (ins := .iconst 1) (len := 1) (by decide +kernel) rfl
theorem xs_219_184 : xe_P d 219 184 ls (.int v :: .int x :: st) h Q = xe_P d 219 185 ls (.int (x + v) :: st) h Q := xe_P_ar (ins := .iadd) (len := 1) (by decide +kernel) rfl
theorem xs_219_185 : xe_P d 219 185 ls (.int v :: .ref a :: st) h Q = ((xe_ia h a ∧ xe_ix h a v) ∧ xe_P d 219 186 ls (.int (xe_I h a v.toNatClampNeg) :: st) h Q) := xe_P_iald (by decide +kernel)
theorem xs_219_186 : xe_P d 219 186 ls (.int x :: st) h Q = xe_P d 219 187 ls (.long x.toInt64 :: st) h Q := xe_P_ar (ins := .i2l) (len := 1) (by decide +kernel) rfl
theorem xs_219_187 : xe_P d 219 187 ls st h Q = xe_P d 219 189 ls (.int 32 :: st) h Q := xe_P_ar (ins := .bipush 32) (len := 2) (by decide +kernel) rfl
theorem xs_219_189 : xe_P d 219 189 ls (.int v :: .long w :: st) h Q = xe_P d 219 190 ls (.long (w <<< (v.toInt64 &&& 63)) :: st) h Q := xe_P_ar (ins := .lshl) (len := 1) (by decide +kernel) rfl
theorem xs_219_190 : xe_P d 219 190 [.ref a, l1, l2, l3] st h Q = xe_P d 219 191 [.ref a, l1, l2, l3] (.ref a :: st) h Q := xe_P_lo (ins := .aload_n 0) (len := 1) (by decide +kernel) rfl rfl
theorem xs_219_191 : xe_P d 219 191 [l0, l1, l2, .int x] st h Q = xe_P d 219 192 [l0, l1, l2, .int x] (.int x :: st) h Q := xe_P_lo (ins := .iload_n 3) (len := 1) (by decide +kernel) rfl rfl
theorem xs_219_192 : xe_P d 219 192 ls st h Q = xe_P d 219 193 ls (.int 2 :: st) h Q := xe_P_ar (ins := .iconst 2) (len := 1) (by decide +kernel) rfl
theorem xs_219_193 : xe_P d 219 193 ls (.int v :: .int x :: st) h Q = xe_P d 219 194 ls (.int (x + v) :: st) h Q := xe_P_ar (ins := .iadd) (len := 1) (by decide +kernel) rfl
theorem xs_219_194 : xe_P d 219 194 ls (.int v :: .ref a :: st) h Q = ((xe_ia h a ∧ xe_ix h a v) ∧ xe_P d 219 195 ls (.int (xe_I h a v.toNatClampNeg) :: st) h Q) := xe_P_iald (by decide +kernel)
theorem xs_219_195 : xe_P d 219 195 ls (.int x :: st) h Q = xe_P d 219 196 ls (.long x.toInt64 :: st) h Q := xe_P_ar (ins := .i2l) (len := 1) (by decide +kernel) rfl
theorem xs_219_196 : xe_P d 219 196 ls st h Q = xe_P d 219 199 ls (.long 4294967295 :: st) h Q := xe_P_ldc2 (j := 13) (by decide +kernel) (by decide +kernel)
theorem xs_219_199 : xe_P d 219 199 ls (.long u :: .long w :: st) h Q = xe_P d 219 200 ls (.long (w &&& u) :: st) h Q := xe_P_ar (ins := .land) (len := 1) (by decide +kernel) rfl
theorem xs_219_200 : xe_P d 219 200 ls (.long u :: .long w :: st) h Q = xe_P d 219 201 ls (.long (w ||| u) :: st) h Q := xe_P_ar (ins := .lor) (len := 1) (by decide +kernel) rfl
theorem xs_219_201 : xe_P d 219 201 ls (v0 :: .ref a :: st) h Q = ((xe_w st ≤ 8 ∧ xe_ob h a 6) ∧ xe_C d 83 [.ref a, v0] h (fun r h' => xe_P d 219 204 ls (r.toList ++ st) h' Q)) := xe_P_ivv (y := 219) (pc := 201) (z := 83) (i := 15) (vs := [v0]) (by decide +kernel) (by decide +kernel) rfl (by decide +kernel)
theorem xs_219_204 : xe_P d 219 204 [l0, l1, .ref a, l3] st h Q = xe_P d 219 205 [l0, l1, .ref a, l3] (.ref a :: st) h Q := xe_P_lo (ins := .aload_n 2) (len := 1) (by decide +kernel) rfl rfl
theorem xs_219_205 : xe_P d 219 205 [.ref a, l1, l2, l3] st h Q = xe_P d 219 206 [.ref a, l1, l2, l3] (.ref a :: st) h Q := xe_P_lo (ins := .aload_n 0) (len := 1) (by decide +kernel) rfl rfl
theorem xs_219_206 : xe_P d 219 206 [l0, l1, l2, .int x] st h Q = xe_P d 219 207 [l0, l1, l2, .int x] (.int x :: st) h Q := xe_P_lo (ins := .iload_n 3) (len := 1) (by decide +kernel) rfl rfl
theorem xs_219_207 : xe_P d 219 207 ls st h Q = xe_P d 219 208 ls (.int 1 :: st) h Q := xe_P_ar (ins := .iconst 1) (len := 1) (by decide +kernel) rfl
theorem xs_219_208 : xe_P d 219 208 ls (.int v :: .int x :: st) h Q = xe_P d 219 209 ls (.int (x + v) :: st) h Q := xe_P_ar (ins := .iadd) (len := 1) (by decide +kernel) rfl
theorem xs_219_209 : xe_P d 219 209 ls (.int v :: .ref a :: st) h Q = ((xe_ia h a ∧ xe_ix h a v) ∧ xe_P d 219 210 ls (.int (xe_I h a v.toNatClampNeg) :: st) h Q) := xe_P_iald (by decide +kernel)
theorem xs_219_210 : xe_P d 219 210 ls (.int x :: st) h Q = xe_P d 219 211 ls (.long x.toInt64 :: st) h Q := xe_P_ar (ins := .i2l) (len := 1) (by decide +kernel) rfl
theorem xs_219_211 : xe_P d 219 211 ls st h Q = xe_P d 219 213 ls (.int 32 :: st) h Q := xe_P_ar (ins := .bipush 32) (len := 2) (by decide +kernel) rfl
theorem xs_219_213 : xe_P d 219 213 ls (.int v :: .long w :: st) h Q = xe_P d 219 214 ls (.long (w <<< (v.toInt64 &&& 63)) :: st) h Q := xe_P_ar (ins := .lshl) (len := 1) (by decide +kernel) rfl
theorem xs_219_214 : xe_P d 219 214 [.ref a, l1, l2, l3] st h Q = xe_P d 219 215 [.ref a, l1, l2, l3] (.ref a :: st) h Q := xe_P_lo (ins := .aload_n 0) (len := 1) (by decide +kernel) rfl rfl
theorem xs_219_215 : xe_P d 219 215 [l0, l1, l2, .int x] st h Q = xe_P d 219 216 [l0, l1, l2, .int x] (.int x :: st) h Q := xe_P_lo (ins := .iload_n 3) (len := 1) (by decide +kernel) rfl rfl
theorem xs_219_216 : xe_P d 219 216 ls st h Q = xe_P d 219 217 ls (.int 2 :: st) h Q := xe_P_ar (ins := .iconst 2) (len := 1) (by decide +kernel) rfl
theorem xs_219_217 : xe_P d 219 217 ls (.int v :: .int x :: st) h Q = xe_P d 219 218 ls (.int (x + v) :: st) h Q := xe_P_ar (ins := .iadd) (len := 1) (by decide +kernel) rfl
theorem xs_219_218 : xe_P d 219 218 ls (.int v :: .ref a :: st) h Q = ((xe_ia h a ∧ xe_ix h a v) ∧ xe_P d 219 219 ls (.int (xe_I h a v.toNatClampNeg) :: st) h Q) := xe_P_iald (by decide +kernel)
theorem xs_219_219 : xe_P d 219 219 ls (.int x :: st) h Q = xe_P d 219 220 ls (.long x.toInt64 :: st) h Q := xe_P_ar (ins := .i2l) (len := 1) (by decide +kernel) rfl
theorem xs_219_220 : xe_P d 219 220 ls st h Q = xe_P d 219 223 ls (.long 4294967295 :: st) h Q := xe_P_ldc2 (j := 13) (by decide +kernel) (by decide +kernel)
theorem xs_219_223 : xe_P d 219 223 ls (.long u :: .long w :: st) h Q = xe_P d 219 224 ls (.long (w &&& u) :: st) h Q := xe_P_ar (ins := .land) (len := 1) (by decide +kernel) rfl
theorem xs_219_224 : xe_P d 219 224 ls (.long u :: .long w :: st) h Q = xe_P d 219 225 ls (.long (w ||| u) :: st) h Q := xe_P_ar (ins := .lor) (len := 1) (by decide +kernel) rfl
theorem xs_219_225 : xe_P d 219 225 ls (v0 :: .ref a :: st) h Q = ((xe_w st ≤ 8 ∧ xe_ob h a 7) ∧ xe_C d 121 [.ref a, v0] h (fun r h' => xe_P d 219 228 ls (r.toList ++ st) h' Q)) := xe_P_ivv (y := 219) (pc := 225) (z := 121) (i := 19) (vs := [v0]) (by decide +kernel) (by decide +kernel) rfl (by decide +kernel)
theorem xs_219_228 : xe_P d 219 228 ls (.int v :: .int x :: st) h Q = (if x = v then xe_P d 219 1216 ls st h Q else xe_P d 219 231 ls st h Q) := xe_P_if (ins := .if_icmp .eq 988) (len := 3) (off := 988) (by decide +kernel) (by decide) rfl rfl rfl
theorem xs_219_231 : xe_P d 219 231 ls st h Q = xe_P d 219 232 ls (.int 0 :: st) h Q := xe_P_ar (ins := .iconst 0) (len := 1) (by decide +kernel) rfl
theorem xs_219_232 : xe_P d 219 232 ls [.int x] h Q = ((x = 0 ∨ x = 1) ∧ Q (some (.int x)) h) := xe_P_zreturn (by decide +kernel) rfl
theorem xs_219_233 : xe_P d 219 233 [l0, .ref a, l2, l3] st h Q = xe_P d 219 234 [l0, .ref a, l2, l3] (.ref a :: st) h Q := xe_P_lo (ins := .aload_n 1) (len := 1) (by decide +kernel) rfl rfl
theorem xs_219_234 : xe_P d 219 234 [.ref a, l1, l2, l3] st h Q = xe_P d 219 235 [.ref a, l1, l2, l3] (.ref a :: st) h Q := xe_P_lo (ins := .aload_n 0) (len := 1) (by decide +kernel) rfl rfl
theorem xs_219_235 : xe_P d 219 235 [l0, l1, l2, .int x] st h Q = xe_P d 219 236 [l0, l1, l2, .int x] (.int x :: st) h Q := xe_P_lo (ins := .iload_n 3) (len := 1) (by decide +kernel) rfl rfl
theorem xs_219_236 : xe_P d 219 236 ls st h Q = xe_P d 219 237 ls (.int 1 :: st) h Q := xe_P_ar (ins := .iconst 1) (len := 1) (by decide +kernel) rfl
theorem xs_219_237 : xe_P d 219 237 ls (.int v :: .int x :: st) h Q = xe_P d 219 238 ls (.int (x + v) :: st) h Q := xe_P_ar (ins := .iadd) (len := 1) (by decide +kernel) rfl
theorem xs_219_238 : xe_P d 219 238 ls (.int v :: .ref a :: st) h Q = ((xe_ia h a ∧ xe_ix h a v) ∧ xe_P d 219 239 ls (.int (xe_I h a v.toNatClampNeg) :: st) h Q) := xe_P_iald (by decide +kernel)
theorem xs_219_239 : xe_P d 219 239 ls (v0 :: .ref a :: st) h Q = ((xe_w st ≤ 8 ∧ xe_ob h a 6) ∧ xe_C d 84 [.ref a, v0] h (fun r h' => xe_P d 219 242 ls (r.toList ++ st) h' Q)) := xe_P_ivv (y := 219) (pc := 239) (z := 84) (i := 20) (vs := [v0]) (by decide +kernel) (by decide +kernel) rfl (by decide +kernel)
theorem xs_219_242 : xe_P d 219 242 [l0, l1, .ref a, l3] st h Q = xe_P d 219 243 [l0, l1, .ref a, l3] (.ref a :: st) h Q := xe_P_lo (ins := .aload_n 2) (len := 1) (by decide +kernel) rfl rfl
theorem xs_219_243 : xe_P d 219 243 [.ref a, l1, l2, l3] st h Q = xe_P d 219 244 [.ref a, l1, l2, l3] (.ref a :: st) h Q := xe_P_lo (ins := .aload_n 0) (len := 1) (by decide +kernel) rfl rfl
theorem xs_219_244 : xe_P d 219 244 [l0, l1, l2, .int x] st h Q = xe_P d 219 245 [l0, l1, l2, .int x] (.int x :: st) h Q := xe_P_lo (ins := .iload_n 3) (len := 1) (by decide +kernel) rfl rfl
theorem xs_219_245 : xe_P d 219 245 ls st h Q = xe_P d 219 246 ls (.int 1 :: st) h Q := xe_P_ar (ins := .iconst 1) (len := 1) (by decide +kernel) rfl
theorem xs_219_246 : xe_P d 219 246 ls (.int v :: .int x :: st) h Q = xe_P d 219 247 ls (.int (x + v) :: st) h Q := xe_P_ar (ins := .iadd) (len := 1) (by decide +kernel) rfl
theorem xs_219_247 : xe_P d 219 247 ls (.int v :: .ref a :: st) h Q = ((xe_ia h a ∧ xe_ix h a v) ∧ xe_P d 219 248 ls (.int (xe_I h a v.toNatClampNeg) :: st) h Q) := xe_P_iald (by decide +kernel)
theorem xs_219_248 : xe_P d 219 248 ls (v0 :: .ref a :: st) h Q = ((xe_w st ≤ 8 ∧ xe_ob h a 7) ∧ xe_C d 122 [.ref a, v0] h (fun r h' => xe_P d 219 251 ls (r.toList ++ st) h' Q)) := xe_P_ivv (y := 219) (pc := 248) (z := 122) (i := 24) (vs := [v0]) (by decide +kernel) (by decide +kernel) rfl (by decide +kernel)
theorem xs_219_251 : xe_P d 219 251 ls (.int v :: .int x :: st) h Q = (if x = v then xe_P d 219 1216 ls st h Q else xe_P d 219 254 ls st h Q) := xe_P_if (ins := .if_icmp .eq 965) (len := 3) (off := 965) (by decide +kernel) (by decide) rfl rfl rfl
theorem xs_219_254 : xe_P d 219 254 ls st h Q = xe_P d 219 255 ls (.int 0 :: st) h Q := xe_P_ar (ins := .iconst 0) (len := 1) (by decide +kernel) rfl
theorem xs_219_255 : xe_P d 219 255 ls [.int x] h Q = ((x = 0 ∨ x = 1) ∧ Q (some (.int x)) h) := xe_P_zreturn (by decide +kernel) rfl
theorem xs_219_256 : xe_P d 219 256 [l0, .ref a, l2, l3] st h Q = xe_P d 219 257 [l0, .ref a, l2, l3] (.ref a :: st) h Q := xe_P_lo (ins := .aload_n 1) (len := 1) (by decide +kernel) rfl rfl
theorem xs_219_257 : xe_P d 219 257 ls (.ref a :: st) h Q = ((xe_w st ≤ 8 ∧ xe_ob h a 6) ∧ xe_C d 85 [.ref a] h (fun r h' => xe_P d 219 260 ls (r.toList ++ st) h' Q)) := xe_P_ivv (y := 219) (pc := 257) (z := 85) (i := 25) (vs := []) (by decide +kernel) (by decide +kernel) rfl (by decide +kernel)
theorem xs_219_260 : xe_P d 219 260 [l0, l1, .ref a, l3] st h Q = xe_P d 219 261 [l0, l1, .ref a, l3] (.ref a :: st) h Q := xe_P_lo (ins := .aload_n 2) (len := 1) (by decide +kernel) rfl rfl
theorem xs_219_261 : xe_P d 219 261 ls (.ref a :: st) h Q = ((xe_w st ≤ 8 ∧ xe_ob h a 7) ∧ xe_C d 134 [.ref a] h (fun r h' => xe_P d 219 264 ls (r.toList ++ st) h' Q)) := xe_P_ivv (y := 219) (pc := 261) (z := 134) (i := 29) (vs := []) (by decide +kernel) (by decide +kernel) rfl (by decide +kernel)
theorem xs_219_264 : xe_P d 219 264 ls (.int v :: .int x :: st) h Q = (if x = v then xe_P d 219 1216 ls st h Q else xe_P d 219 267 ls st h Q) := xe_P_if (ins := .if_icmp .eq 952) (len := 3) (off := 952) (by decide +kernel) (by decide) rfl rfl rfl
theorem xs_219_267 : xe_P d 219 267 ls st h Q = xe_P d 219 268 ls (.int 0 :: st) h Q := xe_P_ar (ins := .iconst 0) (len := 1) (by decide +kernel) rfl
theorem xs_219_268 : xe_P d 219 268 ls [.int x] h Q = ((x = 0 ∨ x = 1) ∧ Q (some (.int x)) h) := xe_P_zreturn (by decide +kernel) rfl
theorem xs_219_269 : xe_P d 219 269 [l0, .ref a, l2, l3] st h Q = xe_P d 219 270 [l0, .ref a, l2, l3] (.ref a :: st) h Q := xe_P_lo (ins := .aload_n 1) (len := 1) (by decide +kernel) rfl rfl
theorem xs_219_270 : xe_P d 219 270 ls (.ref a :: st) h Q = ((xe_w st ≤ 8 ∧ xe_ob h a 6) ∧ xe_C d 86 [.ref a] h (fun r h' => xe_P d 219 273 ls (r.toList ++ st) h' Q)) := xe_P_ivv (y := 219) (pc := 270) (z := 86) (i := 30) (vs := []) (by decide +kernel) (by decide +kernel) rfl (by decide +kernel)
theorem xs_219_273 : xe_P d 219 273 [l0, l1, .ref a, l3] st h Q = xe_P d 219 274 [l0, l1, .ref a, l3] (.ref a :: st) h Q := xe_P_lo (ins := .aload_n 2) (len := 1) (by decide +kernel) rfl rfl
theorem xs_219_274 : xe_P d 219 274 ls (.ref a :: st) h Q = ((xe_w st ≤ 8 ∧ xe_ob h a 7) ∧ xe_C d 135 [.ref a] h (fun r h' => xe_P d 219 277 ls (r.toList ++ st) h' Q)) := xe_P_ivv (y := 219) (pc := 274) (z := 135) (i := 33) (vs := []) (by decide +kernel) (by decide +kernel) rfl (by decide +kernel)
theorem xs_219_277 : xe_P d 219 277 ls (.int v :: .int x :: st) h Q = (if x = v then xe_P d 219 1216 ls st h Q else xe_P d 219 280 ls st h Q) := xe_P_if (ins := .if_icmp .eq 939) (len := 3) (off := 939) (by decide +kernel) (by decide) rfl rfl rfl
theorem xs_219_280 : xe_P d 219 280 ls st h Q = xe_P d 219 281 ls (.int 0 :: st) h Q := xe_P_ar (ins := .iconst 0) (len := 1) (by decide +kernel) rfl
theorem xs_219_281 : xe_P d 219 281 ls [.int x] h Q = ((x = 0 ∨ x = 1) ∧ Q (some (.int x)) h) := xe_P_zreturn (by decide +kernel) rfl
theorem xs_219_282 : xe_P d 219 282 [l0, .ref a, l2, l3] st h Q = xe_P d 219 283 [l0, .ref a, l2, l3] (.ref a :: st) h Q := xe_P_lo (ins := .aload_n 1) (len := 1) (by decide +kernel) rfl rfl
theorem xs_219_283 : xe_P d 219 283 [.ref a, l1, l2, l3] st h Q = xe_P d 219 284 [.ref a, l1, l2, l3] (.ref a :: st) h Q := xe_P_lo (ins := .aload_n 0) (len := 1) (by decide +kernel) rfl rfl
theorem xs_219_284 : xe_P d 219 284 [l0, l1, l2, .int x] st h Q = xe_P d 219 285 [l0, l1, l2, .int x] (.int x :: st) h Q := xe_P_lo (ins := .iload_n 3) (len := 1) (by decide +kernel) rfl rfl
theorem xs_219_285 : xe_P d 219 285 ls st h Q = xe_P d 219 286 ls (.int 1 :: st) h Q := xe_P_ar (ins := .iconst 1) (len := 1) (by decide +kernel) rfl
theorem xs_219_286 : xe_P d 219 286 ls (.int v :: .int x :: st) h Q = xe_P d 219 287 ls (.int (x + v) :: st) h Q := xe_P_ar (ins := .iadd) (len := 1) (by decide +kernel) rfl
theorem xs_219_287 : xe_P d 219 287 ls (.int v :: .ref a :: st) h Q = ((xe_ia h a ∧ xe_ix h a v) ∧ xe_P d 219 288 ls (.int (xe_I h a v.toNatClampNeg) :: st) h Q) := xe_P_iald (by decide +kernel)
theorem xs_219_288 : xe_P d 219 288 ls (v0 :: .ref a :: st) h Q = ((xe_w st ≤ 8 ∧ xe_ob h a 6) ∧ xe_C d 87 [.ref a, v0] h (fun r h' => xe_P d 219 291 ls (r.toList ++ st) h' Q)) := xe_P_ivv (y := 219) (pc := 288) (z := 87) (i := 34) (vs := [v0]) (by decide +kernel) (by decide +kernel) rfl (by decide +kernel)
theorem xs_219_291 : xe_P d 219 291 [l0, l1, .ref a, l3] st h Q = xe_P d 219 292 [l0, l1, .ref a, l3] (.ref a :: st) h Q := xe_P_lo (ins := .aload_n 2) (len := 1) (by decide +kernel) rfl rfl
theorem xs_219_292 : xe_P d 219 292 [.ref a, l1, l2, l3] st h Q = xe_P d 219 293 [.ref a, l1, l2, l3] (.ref a :: st) h Q := xe_P_lo (ins := .aload_n 0) (len := 1) (by decide +kernel) rfl rfl
theorem xs_219_293 : xe_P d 219 293 [l0, l1, l2, .int x] st h Q = xe_P d 219 294 [l0, l1, l2, .int x] (.int x :: st) h Q := xe_P_lo (ins := .iload_n 3) (len := 1) (by decide +kernel) rfl rfl
theorem xs_219_294 : xe_P d 219 294 ls st h Q = xe_P d 219 295 ls (.int 1 :: st) h Q := xe_P_ar (ins := .iconst 1) (len := 1) (by decide +kernel) rfl
theorem xs_219_295 : xe_P d 219 295 ls (.int v :: .int x :: st) h Q = xe_P d 219 296 ls (.int (x + v) :: st) h Q := xe_P_ar (ins := .iadd) (len := 1) (by decide +kernel) rfl
theorem xs_219_296 : xe_P d 219 296 ls (.int v :: .ref a :: st) h Q = ((xe_ia h a ∧ xe_ix h a v) ∧ xe_P d 219 297 ls (.int (xe_I h a v.toNatClampNeg) :: st) h Q) := xe_P_iald (by decide +kernel)
theorem xs_219_297 : xe_P d 219 297 ls (v0 :: .ref a :: st) h Q = ((xe_w st ≤ 8 ∧ xe_ob h a 7) ∧ xe_C d 143 [.ref a, v0] h (fun r h' => xe_P d 219 300 ls (r.toList ++ st) h' Q)) := xe_P_ivv (y := 219) (pc := 297) (z := 143) (i := 37) (vs := [v0]) (by decide +kernel) (by decide +kernel) rfl (by decide +kernel)
theorem xs_219_300 : xe_P d 219 300 ls (.int v :: .int x :: st) h Q = (if x = v then xe_P d 219 1216 ls st h Q else xe_P d 219 303 ls st h Q) := xe_P_if (ins := .if_icmp .eq 916) (len := 3) (off := 916) (by decide +kernel) (by decide) rfl rfl rfl
theorem xs_219_303 : xe_P d 219 303 ls st h Q = xe_P d 219 304 ls (.int 0 :: st) h Q := xe_P_ar (ins := .iconst 0) (len := 1) (by decide +kernel) rfl
theorem xs_219_304 : xe_P d 219 304 ls [.int x] h Q = ((x = 0 ∨ x = 1) ∧ Q (some (.int x)) h) := xe_P_zreturn (by decide +kernel) rfl
theorem xs_219_305 : xe_P d 219 305 [l0, .ref a, l2, l3] st h Q = xe_P d 219 306 [l0, .ref a, l2, l3] (.ref a :: st) h Q := xe_P_lo (ins := .aload_n 1) (len := 1) (by decide +kernel) rfl rfl
theorem xs_219_306 : xe_P d 219 306 [.ref a, l1, l2, l3] st h Q = xe_P d 219 307 [.ref a, l1, l2, l3] (.ref a :: st) h Q := xe_P_lo (ins := .aload_n 0) (len := 1) (by decide +kernel) rfl rfl
theorem xs_219_307 : xe_P d 219 307 [l0, l1, l2, .int x] st h Q = xe_P d 219 308 [l0, l1, l2, .int x] (.int x :: st) h Q := xe_P_lo (ins := .iload_n 3) (len := 1) (by decide +kernel) rfl rfl
theorem xs_219_308 : xe_P d 219 308 ls st h Q = xe_P d 219 309 ls (.int 1 :: st) h Q := xe_P_ar (ins := .iconst 1) (len := 1) (by decide +kernel) rfl
theorem xs_219_309 : xe_P d 219 309 ls (.int v :: .int x :: st) h Q = xe_P d 219 310 ls (.int (x + v) :: st) h Q := xe_P_ar (ins := .iadd) (len := 1) (by decide +kernel) rfl
theorem xs_219_310 : xe_P d 219 310 ls (.int v :: .ref a :: st) h Q = ((xe_ia h a ∧ xe_ix h a v) ∧ xe_P d 219 311 ls (.int (xe_I h a v.toNatClampNeg) :: st) h Q) := xe_P_iald (by decide +kernel)
theorem xs_219_311 : xe_P d 219 311 [.ref a, l1, l2, l3] st h Q = xe_P d 219 312 [.ref a, l1, l2, l3] (.ref a :: st) h Q := xe_P_lo (ins := .aload_n 0) (len := 1) (by decide +kernel) rfl rfl
theorem xs_219_312 : xe_P d 219 312 [l0, l1, l2, .int x] st h Q = xe_P d 219 313 [l0, l1, l2, .int x] (.int x :: st) h Q := xe_P_lo (ins := .iload_n 3) (len := 1) (by decide +kernel) rfl rfl
theorem xs_219_313 : xe_P d 219 313 ls st h Q = xe_P d 219 314 ls (.int 2 :: st) h Q := xe_P_ar (ins := .iconst 2) (len := 1) (by decide +kernel) rfl
theorem xs_219_314 : xe_P d 219 314 ls (.int v :: .int x :: st) h Q = xe_P d 219 315 ls (.int (x + v) :: st) h Q := xe_P_ar (ins := .iadd) (len := 1) (by decide +kernel) rfl
theorem xs_219_315 : xe_P d 219 315 ls (.int v :: .ref a :: st) h Q = ((xe_ia h a ∧ xe_ix h a v) ∧ xe_P d 219 316 ls (.int (xe_I h a v.toNatClampNeg) :: st) h Q) := xe_P_iald (by decide +kernel)
theorem xs_219_316 : xe_P d 219 316 ls (v1 :: v0 :: .ref a :: st) h Q = ((xe_w st ≤ 8 ∧ xe_ob h a 6) ∧ xe_C d 88 [.ref a, v0, v1] h (fun r h' => xe_P d 219 319 ls (r.toList ++ st) h' Q)) := xe_P_ivv (y := 219) (pc := 316) (z := 88) (i := 38) (vs := [v1, v0]) (by decide +kernel) (by decide +kernel) rfl (by decide +kernel)
theorem xs_219_319 : xe_P d 219 319 [l0, l1, .ref a, l3] st h Q = xe_P d 219 320 [l0, l1, .ref a, l3] (.ref a :: st) h Q := xe_P_lo (ins := .aload_n 2) (len := 1) (by decide +kernel) rfl rfl
theorem xs_219_320 : xe_P d 219 320 [.ref a, l1, l2, l3] st h Q = xe_P d 219 321 [.ref a, l1, l2, l3] (.ref a :: st) h Q := xe_P_lo (ins := .aload_n 0) (len := 1) (by decide +kernel) rfl rfl
theorem xs_219_321 : xe_P d 219 321 [l0, l1, l2, .int x] st h Q = xe_P d 219 322 [l0, l1, l2, .int x] (.int x :: st) h Q := xe_P_lo (ins := .iload_n 3) (len := 1) (by decide +kernel) rfl rfl
theorem xs_219_322 : xe_P d 219 322 ls st h Q = xe_P d 219 323 ls (.int 1 :: st) h Q := xe_P_ar (ins := .iconst 1) (len := 1) (by decide +kernel) rfl
theorem xs_219_323 : xe_P d 219 323 ls (.int v :: .int x :: st) h Q = xe_P d 219 324 ls (.int (x + v) :: st) h Q := xe_P_ar (ins := .iadd) (len := 1) (by decide +kernel) rfl
theorem xs_219_324 : xe_P d 219 324 ls (.int v :: .ref a :: st) h Q = ((xe_ia h a ∧ xe_ix h a v) ∧ xe_P d 219 325 ls (.int (xe_I h a v.toNatClampNeg) :: st) h Q) := xe_P_iald (by decide +kernel)
theorem xs_219_325 : xe_P d 219 325 [.ref a, l1, l2, l3] st h Q = xe_P d 219 326 [.ref a, l1, l2, l3] (.ref a :: st) h Q := xe_P_lo (ins := .aload_n 0) (len := 1) (by decide +kernel) rfl rfl
theorem xs_219_326 : xe_P d 219 326 [l0, l1, l2, .int x] st h Q = xe_P d 219 327 [l0, l1, l2, .int x] (.int x :: st) h Q := xe_P_lo (ins := .iload_n 3) (len := 1) (by decide +kernel) rfl rfl
theorem xs_219_327 : xe_P d 219 327 ls st h Q = xe_P d 219 328 ls (.int 2 :: st) h Q := xe_P_ar (ins := .iconst 2) (len := 1) (by decide +kernel) rfl
theorem xs_219_328 : xe_P d 219 328 ls (.int v :: .int x :: st) h Q = xe_P d 219 329 ls (.int (x + v) :: st) h Q := xe_P_ar (ins := .iadd) (len := 1) (by decide +kernel) rfl
theorem xs_219_329 : xe_P d 219 329 ls (.int v :: .ref a :: st) h Q = ((xe_ia h a ∧ xe_ix h a v) ∧ xe_P d 219 330 ls (.int (xe_I h a v.toNatClampNeg) :: st) h Q) := xe_P_iald (by decide +kernel)
theorem xs_219_330 : xe_P d 219 330 ls (v1 :: v0 :: .ref a :: st) h Q = ((xe_w st ≤ 8 ∧ xe_ob h a 7) ∧ xe_C d 144 [.ref a, v0, v1] h (fun r h' => xe_P d 219 333 ls (r.toList ++ st) h' Q)) := xe_P_ivv (y := 219) (pc := 330) (z := 144) (i := 42) (vs := [v1, v0]) (by decide +kernel) (by decide +kernel) rfl (by decide +kernel)
theorem xs_219_333 : xe_P d 219 333 ls (.int v :: .int x :: st) h Q = (if x = v then xe_P d 219 1216 ls st h Q else xe_P d 219 336 ls st h Q) := xe_P_if (ins := .if_icmp .eq 883) (len := 3) (off := 883) (by decide +kernel) (by decide) rfl rfl rfl
theorem xs_219_336 : xe_P d 219 336 ls st h Q = xe_P d 219 337 ls (.int 0 :: st) h Q := xe_P_ar (ins := .iconst 0) (len := 1) (by decide +kernel) rfl
theorem xs_219_337 : xe_P d 219 337 ls [.int x] h Q = ((x = 0 ∨ x = 1) ∧ Q (some (.int x)) h) := xe_P_zreturn (by decide +kernel) rfl
theorem xs_219_338 : xe_P d 219 338 [l0, .ref a, l2, l3] st h Q = xe_P d 219 339 [l0, .ref a, l2, l3] (.ref a :: st) h Q := xe_P_lo (ins := .aload_n 1) (len := 1) (by decide +kernel) rfl rfl
theorem xs_219_339 : xe_P d 219 339 [.ref a, l1, l2, l3] st h Q = xe_P d 219 340 [.ref a, l1, l2, l3] (.ref a :: st) h Q := xe_P_lo (ins := .aload_n 0) (len := 1) (by decide +kernel) rfl rfl
theorem xs_219_340 : xe_P d 219 340 [l0, l1, l2, .int x] st h Q = xe_P d 219 341 [l0, l1, l2, .int x] (.int x :: st) h Q := xe_P_lo (ins := .iload_n 3) (len := 1) (by decide +kernel) rfl rfl
theorem xs_219_341 : xe_P d 219 341 ls st h Q = xe_P d 219 342 ls (.int 1 :: st) h Q := xe_P_ar (ins := .iconst 1) (len := 1) (by decide +kernel) rfl
theorem xs_219_342 : xe_P d 219 342 ls (.int v :: .int x :: st) h Q = xe_P d 219 343 ls (.int (x + v) :: st) h Q := xe_P_ar (ins := .iadd) (len := 1) (by decide +kernel) rfl
theorem xs_219_343 : xe_P d 219 343 ls (.int v :: .ref a :: st) h Q = ((xe_ia h a ∧ xe_ix h a v) ∧ xe_P d 219 344 ls (.int (xe_I h a v.toNatClampNeg) :: st) h Q) := xe_P_iald (by decide +kernel)
theorem xs_219_344 : xe_P d 219 344 [.ref a, l1, l2, l3] st h Q = xe_P d 219 345 [.ref a, l1, l2, l3] (.ref a :: st) h Q := xe_P_lo (ins := .aload_n 0) (len := 1) (by decide +kernel) rfl rfl
theorem xs_219_345 : xe_P d 219 345 [l0, l1, l2, .int x] st h Q = xe_P d 219 346 [l0, l1, l2, .int x] (.int x :: st) h Q := xe_P_lo (ins := .iload_n 3) (len := 1) (by decide +kernel) rfl rfl
theorem xs_219_346 : xe_P d 219 346 ls st h Q = xe_P d 219 347 ls (.int 2 :: st) h Q := xe_P_ar (ins := .iconst 2) (len := 1) (by decide +kernel) rfl
theorem xs_219_347 : xe_P d 219 347 ls (.int v :: .int x :: st) h Q = xe_P d 219 348 ls (.int (x + v) :: st) h Q := xe_P_ar (ins := .iadd) (len := 1) (by decide +kernel) rfl
theorem xs_219_348 : xe_P d 219 348 ls (.int v :: .ref a :: st) h Q = ((xe_ia h a ∧ xe_ix h a v) ∧ xe_P d 219 349 ls (.int (xe_I h a v.toNatClampNeg) :: st) h Q) := xe_P_iald (by decide +kernel)
theorem xs_219_349 : xe_P d 219 349 ls (v1 :: v0 :: .ref a :: st) h Q = ((xe_w st ≤ 8 ∧ xe_ob h a 6) ∧ xe_C d 89 [.ref a, v0, v1] h (fun r h' => xe_P d 219 352 ls (r.toList ++ st) h' Q)) := xe_P_ivv (y := 219) (pc := 349) (z := 89) (i := 43) (vs := [v1, v0]) (by decide +kernel) (by decide +kernel) rfl (by decide +kernel)
theorem xs_219_352 : xe_P d 219 352 [l0, l1, .ref a, l3] st h Q = xe_P d 219 353 [l0, l1, .ref a, l3] (.ref a :: st) h Q := xe_P_lo (ins := .aload_n 2) (len := 1) (by decide +kernel) rfl rfl
theorem xs_219_353 : xe_P d 219 353 [.ref a, l1, l2, l3] st h Q = xe_P d 219 354 [.ref a, l1, l2, l3] (.ref a :: st) h Q := xe_P_lo (ins := .aload_n 0) (len := 1) (by decide +kernel) rfl rfl
theorem xs_219_354 : xe_P d 219 354 [l0, l1, l2, .int x] st h Q = xe_P d 219 355 [l0, l1, l2, .int x] (.int x :: st) h Q := xe_P_lo (ins := .iload_n 3) (len := 1) (by decide +kernel) rfl rfl
theorem xs_219_355 : xe_P d 219 355 ls st h Q = xe_P d 219 356 ls (.int 1 :: st) h Q := xe_P_ar (ins := .iconst 1) (len := 1) (by decide +kernel) rfl
theorem xs_219_356 : xe_P d 219 356 ls (.int v :: .int x :: st) h Q = xe_P d 219 357 ls (.int (x + v) :: st) h Q := xe_P_ar (ins := .iadd) (len := 1) (by decide +kernel) rfl
theorem xs_219_357 : xe_P d 219 357 ls (.int v :: .ref a :: st) h Q = ((xe_ia h a ∧ xe_ix h a v) ∧ xe_P d 219 358 ls (.int (xe_I h a v.toNatClampNeg) :: st) h Q) := xe_P_iald (by decide +kernel)
theorem xs_219_358 : xe_P d 219 358 [.ref a, l1, l2, l3] st h Q = xe_P d 219 359 [.ref a, l1, l2, l3] (.ref a :: st) h Q := xe_P_lo (ins := .aload_n 0) (len := 1) (by decide +kernel) rfl rfl
theorem xs_219_359 : xe_P d 219 359 [l0, l1, l2, .int x] st h Q = xe_P d 219 360 [l0, l1, l2, .int x] (.int x :: st) h Q := xe_P_lo (ins := .iload_n 3) (len := 1) (by decide +kernel) rfl rfl
theorem xs_219_360 : xe_P d 219 360 ls st h Q = xe_P d 219 361 ls (.int 2 :: st) h Q := xe_P_ar (ins := .iconst 2) (len := 1) (by decide +kernel) rfl
theorem xs_219_361 : xe_P d 219 361 ls (.int v :: .int x :: st) h Q = xe_P d 219 362 ls (.int (x + v) :: st) h Q := xe_P_ar (ins := .iadd) (len := 1) (by decide +kernel) rfl
theorem xs_219_362 : xe_P d 219 362 ls (.int v :: .ref a :: st) h Q = ((xe_ia h a ∧ xe_ix h a v) ∧ xe_P d 219 363 ls (.int (xe_I h a v.toNatClampNeg) :: st) h Q) := xe_P_iald (by decide +kernel)
theorem xs_219_363 : xe_P d 219 363 ls (v1 :: v0 :: .ref a :: st) h Q = ((xe_w st ≤ 8 ∧ xe_ob h a 7) ∧ xe_C d 153 [.ref a, v0, v1] h (fun r h' => xe_P d 219 366 ls (r.toList ++ st) h' Q)) := xe_P_ivv (y := 219) (pc := 363) (z := 153) (i := 46) (vs := [v1, v0]) (by decide +kernel) (by decide +kernel) rfl (by decide +kernel)
theorem xs_219_366 : xe_P d 219 366 ls (.int v :: .int x :: st) h Q = (if x = v then xe_P d 219 1216 ls st h Q else xe_P d 219 369 ls st h Q) := xe_P_if (ins := .if_icmp .eq 850) (len := 3) (off := 850) (by decide +kernel) (by decide) rfl rfl rfl
theorem xs_219_369 : xe_P d 219 369 ls st h Q = xe_P d 219 370 ls (.int 0 :: st) h Q := xe_P_ar (ins := .iconst 0) (len := 1) (by decide +kernel) rfl
theorem xs_219_370 : xe_P d 219 370 ls [.int x] h Q = ((x = 0 ∨ x = 1) ∧ Q (some (.int x)) h) := xe_P_zreturn (by decide +kernel) rfl
theorem xs_219_371 : xe_P d 219 371 [l0, .ref a, l2, l3] st h Q = xe_P d 219 372 [l0, .ref a, l2, l3] (.ref a :: st) h Q := xe_P_lo (ins := .aload_n 1) (len := 1) (by decide +kernel) rfl rfl
theorem xs_219_372 : xe_P d 219 372 [.ref a, l1, l2, l3] st h Q = xe_P d 219 373 [.ref a, l1, l2, l3] (.ref a :: st) h Q := xe_P_lo (ins := .aload_n 0) (len := 1) (by decide +kernel) rfl rfl
theorem xs_219_373 : xe_P d 219 373 [l0, l1, l2, .int x] st h Q = xe_P d 219 374 [l0, l1, l2, .int x] (.int x :: st) h Q := xe_P_lo (ins := .iload_n 3) (len := 1) (by decide +kernel) rfl rfl
theorem xs_219_374 : xe_P d 219 374 ls st h Q = xe_P d 219 375 ls (.int 1 :: st) h Q := xe_P_ar (ins := .iconst 1) (len := 1) (by decide +kernel) rfl
theorem xs_219_375 : xe_P d 219 375 ls (.int v :: .int x :: st) h Q = xe_P d 219 376 ls (.int (x + v) :: st) h Q := xe_P_ar (ins := .iadd) (len := 1) (by decide +kernel) rfl
theorem xs_219_376 : xe_P d 219 376 ls (.int v :: .ref a :: st) h Q = ((xe_ia h a ∧ xe_ix h a v) ∧ xe_P d 219 377 ls (.int (xe_I h a v.toNatClampNeg) :: st) h Q) := xe_P_iald (by decide +kernel)
theorem xs_219_377 : xe_P d 219 377 ls (v0 :: .ref a :: st) h Q = ((xe_w st ≤ 8 ∧ xe_ob h a 6) ∧ xe_C d 90 [.ref a, v0] h (fun r h' => xe_P d 219 380 ls (r.toList ++ st) h' Q)) := xe_P_ivv (y := 219) (pc := 377) (z := 90) (i := 47) (vs := [v0]) (by decide +kernel) (by decide +kernel) rfl (by decide +kernel)
theorem xs_219_380 : xe_P d 219 380 [l0, l1, .ref a, l3] st h Q = xe_P d 219 381 [l0, l1, .ref a, l3] (.ref a :: st) h Q := xe_P_lo (ins := .aload_n 2) (len := 1) (by decide +kernel) rfl rfl
theorem xs_219_381 : xe_P d 219 381 [.ref a, l1, l2, l3] st h Q = xe_P d 219 382 [.ref a, l1, l2, l3] (.ref a :: st) h Q := xe_P_lo (ins := .aload_n 0) (len := 1) (by decide +kernel) rfl rfl
theorem xs_219_382 : xe_P d 219 382 [l0, l1, l2, .int x] st h Q = xe_P d 219 383 [l0, l1, l2, .int x] (.int x :: st) h Q := xe_P_lo (ins := .iload_n 3) (len := 1) (by decide +kernel) rfl rfl
theorem xs_219_383 : xe_P d 219 383 ls st h Q = xe_P d 219 384 ls (.int 1 :: st) h Q := xe_P_ar (ins := .iconst 1) (len := 1) (by decide +kernel) rfl
theorem xs_219_384 : xe_P d 219 384 ls (.int v :: .int x :: st) h Q = xe_P d 219 385 ls (.int (x + v) :: st) h Q := xe_P_ar (ins := .iadd) (len := 1) (by decide +kernel) rfl
theorem xs_219_385 : xe_P d 219 385 ls (.int v :: .ref a :: st) h Q = ((xe_ia h a ∧ xe_ix h a v) ∧ xe_P d 219 386 ls (.int (xe_I h a v.toNatClampNeg) :: st) h Q) := xe_P_iald (by decide +kernel)
theorem xs_219_386 : xe_P d 219 386 ls (v0 :: .ref a :: st) h Q = ((xe_w st ≤ 8 ∧ xe_ob h a 7) ∧ xe_C d 154 [.ref a, v0] h (fun r h' => xe_P d 219 389 ls (r.toList ++ st) h' Q)) := xe_P_ivv (y := 219) (pc := 386) (z := 154) (i := 50) (vs := [v0]) (by decide +kernel) (by decide +kernel) rfl (by decide +kernel)
theorem xs_219_389 : xe_P d 219 389 ls (.int v :: .int x :: st) h Q = (if x = v then xe_P d 219 1216 ls st h Q else xe_P d 219 392 ls st h Q) := xe_P_if (ins := .if_icmp .eq 827) (len := 3) (off := 827) (by decide +kernel) (by decide) rfl rfl rfl
theorem xs_219_392 : xe_P d 219 392 ls st h Q = xe_P d 219 393 ls (.int 0 :: st) h Q := xe_P_ar (ins := .iconst 0) (len := 1) (by decide +kernel) rfl
theorem xs_219_393 : xe_P d 219 393 ls [.int x] h Q = ((x = 0 ∨ x = 1) ∧ Q (some (.int x)) h) := xe_P_zreturn (by decide +kernel) rfl
theorem xs_219_394 : xe_P d 219 394 [l0, .ref a, l2, l3] st h Q = xe_P d 219 395 [l0, .ref a, l2, l3] (.ref a :: st) h Q := xe_P_lo (ins := .aload_n 1) (len := 1) (by decide +kernel) rfl rfl
theorem xs_219_395 : xe_P d 219 395 [.ref a, l1, l2, l3] st h Q = xe_P d 219 396 [.ref a, l1, l2, l3] (.ref a :: st) h Q := xe_P_lo (ins := .aload_n 0) (len := 1) (by decide +kernel) rfl rfl
theorem xs_219_396 : xe_P d 219 396 [l0, l1, l2, .int x] st h Q = xe_P d 219 397 [l0, l1, l2, .int x] (.int x :: st) h Q := xe_P_lo (ins := .iload_n 3) (len := 1) (by decide +kernel) rfl rfl
theorem xs_219_397 : xe_P d 219 397 ls st h Q = xe_P d 219 398 ls (.int 1 :: st) h Q := xe_P_ar (ins := .iconst 1) (len := 1) (by decide +kernel) rfl
theorem xs_219_398 : xe_P d 219 398 ls (.int v :: .int x :: st) h Q = xe_P d 219 399 ls (.int (x + v) :: st) h Q := xe_P_ar (ins := .iadd) (len := 1) (by decide +kernel) rfl
theorem xs_219_399 : xe_P d 219 399 ls (.int v :: .ref a :: st) h Q = ((xe_ia h a ∧ xe_ix h a v) ∧ xe_P d 219 400 ls (.int (xe_I h a v.toNatClampNeg) :: st) h Q) := xe_P_iald (by decide +kernel)
theorem xs_219_400 : xe_P d 219 400 ls (v0 :: .ref a :: st) h Q = ((xe_w st ≤ 8 ∧ xe_ob h a 6) ∧ xe_C d 91 [.ref a, v0] h (fun r h' => xe_P d 219 403 ls (r.toList ++ st) h' Q)) := xe_P_ivv (y := 219) (pc := 400) (z := 91) (i := 51) (vs := [v0]) (by decide +kernel) (by decide +kernel) rfl (by decide +kernel)
theorem xs_219_403 : xe_P d 219 403 [l0, l1, .ref a, l3] st h Q = xe_P d 219 404 [l0, l1, .ref a, l3] (.ref a :: st) h Q := xe_P_lo (ins := .aload_n 2) (len := 1) (by decide +kernel) rfl rfl
theorem xs_219_404 : xe_P d 219 404 [.ref a, l1, l2, l3] st h Q = xe_P d 219 405 [.ref a, l1, l2, l3] (.ref a :: st) h Q := xe_P_lo (ins := .aload_n 0) (len := 1) (by decide +kernel) rfl rfl
theorem xs_219_405 : xe_P d 219 405 [l0, l1, l2, .int x] st h Q = xe_P d 219 406 [l0, l1, l2, .int x] (.int x :: st) h Q := xe_P_lo (ins := .iload_n 3) (len := 1) (by decide +kernel) rfl rfl
theorem xs_219_406 : xe_P d 219 406 ls st h Q = xe_P d 219 407 ls (.int 1 :: st) h Q := xe_P_ar (ins := .iconst 1) (len := 1) (by decide +kernel) rfl
theorem xs_219_407 : xe_P d 219 407 ls (.int v :: .int x :: st) h Q = xe_P d 219 408 ls (.int (x + v) :: st) h Q := xe_P_ar (ins := .iadd) (len := 1) (by decide +kernel) rfl
theorem xs_219_408 : xe_P d 219 408 ls (.int v :: .ref a :: st) h Q = ((xe_ia h a ∧ xe_ix h a v) ∧ xe_P d 219 409 ls (.int (xe_I h a v.toNatClampNeg) :: st) h Q) := xe_P_iald (by decide +kernel)
theorem xs_219_409 : xe_P d 219 409 ls (v0 :: .ref a :: st) h Q = ((xe_w st ≤ 8 ∧ xe_ob h a 7) ∧ xe_C d 155 [.ref a, v0] h (fun r h' => xe_P d 219 412 ls (r.toList ++ st) h' Q)) := xe_P_ivv (y := 219) (pc := 409) (z := 155) (i := 54) (vs := [v0]) (by decide +kernel) (by decide +kernel) rfl (by decide +kernel)
theorem xs_219_412 : xe_P d 219 412 ls (.int v :: .int x :: st) h Q = (if x = v then xe_P d 219 1216 ls st h Q else xe_P d 219 415 ls st h Q) := xe_P_if (ins := .if_icmp .eq 804) (len := 3) (off := 804) (by decide +kernel) (by decide) rfl rfl rfl
theorem xs_219_415 : xe_P d 219 415 ls st h Q = xe_P d 219 416 ls (.int 0 :: st) h Q := xe_P_ar (ins := .iconst 0) (len := 1) (by decide +kernel) rfl
theorem xs_219_416 : xe_P d 219 416 ls [.int x] h Q = ((x = 0 ∨ x = 1) ∧ Q (some (.int x)) h) := xe_P_zreturn (by decide +kernel) rfl
theorem xs_219_417 : xe_P d 219 417 [l0, .ref a, l2, l3] st h Q = xe_P d 219 418 [l0, .ref a, l2, l3] (.ref a :: st) h Q := xe_P_lo (ins := .aload_n 1) (len := 1) (by decide +kernel) rfl rfl
theorem xs_219_418 : xe_P d 219 418 [.ref a, l1, l2, l3] st h Q = xe_P d 219 419 [.ref a, l1, l2, l3] (.ref a :: st) h Q := xe_P_lo (ins := .aload_n 0) (len := 1) (by decide +kernel) rfl rfl
theorem xs_219_419 : xe_P d 219 419 [l0, l1, l2, .int x] st h Q = xe_P d 219 420 [l0, l1, l2, .int x] (.int x :: st) h Q := xe_P_lo (ins := .iload_n 3) (len := 1) (by decide +kernel) rfl rfl
theorem xs_219_420 : xe_P d 219 420 ls st h Q = xe_P d 219 421 ls (.int 1 :: st) h Q := xe_P_ar (ins := .iconst 1) (len := 1) (by decide +kernel) rfl
theorem xs_219_421 : xe_P d 219 421 ls (.int v :: .int x :: st) h Q = xe_P d 219 422 ls (.int (x + v) :: st) h Q := xe_P_ar (ins := .iadd) (len := 1) (by decide +kernel) rfl
theorem xs_219_422 : xe_P d 219 422 ls (.int v :: .ref a :: st) h Q = ((xe_ia h a ∧ xe_ix h a v) ∧ xe_P d 219 423 ls (.int (xe_I h a v.toNatClampNeg) :: st) h Q) := xe_P_iald (by decide +kernel)
theorem xs_219_423 : xe_P d 219 423 [.ref a, l1, l2, l3] st h Q = xe_P d 219 424 [.ref a, l1, l2, l3] (.ref a :: st) h Q := xe_P_lo (ins := .aload_n 0) (len := 1) (by decide +kernel) rfl rfl
theorem xs_219_424 : xe_P d 219 424 [l0, l1, l2, .int x] st h Q = xe_P d 219 425 [l0, l1, l2, .int x] (.int x :: st) h Q := xe_P_lo (ins := .iload_n 3) (len := 1) (by decide +kernel) rfl rfl
theorem xs_219_425 : xe_P d 219 425 ls st h Q = xe_P d 219 426 ls (.int 2 :: st) h Q := xe_P_ar (ins := .iconst 2) (len := 1) (by decide +kernel) rfl
theorem xs_219_426 : xe_P d 219 426 ls (.int v :: .int x :: st) h Q = xe_P d 219 427 ls (.int (x + v) :: st) h Q := xe_P_ar (ins := .iadd) (len := 1) (by decide +kernel) rfl
theorem xs_219_427 : xe_P d 219 427 ls (.int v :: .ref a :: st) h Q = ((xe_ia h a ∧ xe_ix h a v) ∧ xe_P d 219 428 ls (.int (xe_I h a v.toNatClampNeg) :: st) h Q) := xe_P_iald (by decide +kernel)
theorem xs_219_428 : xe_P d 219 428 ls (v1 :: v0 :: .ref a :: st) h Q = ((xe_w st ≤ 8 ∧ xe_ob h a 6) ∧ xe_C d 92 [.ref a, v0, v1] h (fun r h' => xe_P d 219 431 ls (r.toList ++ st) h' Q)) := xe_P_ivv (y := 219) (pc := 428) (z := 92) (i := 55) (vs := [v1, v0]) (by decide +kernel) (by decide +kernel) rfl (by decide +kernel)
theorem xs_219_431 : xe_P d 219 431 [l0, l1, .ref a, l3] st h Q = xe_P d 219 432 [l0, l1, .ref a, l3] (.ref a :: st) h Q := xe_P_lo (ins := .aload_n 2) (len := 1) (by decide +kernel) rfl rfl
theorem xs_219_432 : xe_P d 219 432 [.ref a, l1, l2, l3] st h Q = xe_P d 219 433 [.ref a, l1, l2, l3] (.ref a :: st) h Q := xe_P_lo (ins := .aload_n 0) (len := 1) (by decide +kernel) rfl rfl
theorem xs_219_433 : xe_P d 219 433 [l0, l1, l2, .int x] st h Q = xe_P d 219 434 [l0, l1, l2, .int x] (.int x :: st) h Q := xe_P_lo (ins := .iload_n 3) (len := 1) (by decide +kernel) rfl rfl
theorem xs_219_434 : xe_P d 219 434 ls st h Q = xe_P d 219 435 ls (.int 1 :: st) h Q := xe_P_ar (ins := .iconst 1) (len := 1) (by decide +kernel) rfl
theorem xs_219_435 : xe_P d 219 435 ls (.int v :: .int x :: st) h Q = xe_P d 219 436 ls (.int (x + v) :: st) h Q := xe_P_ar (ins := .iadd) (len := 1) (by decide +kernel) rfl
theorem xs_219_436 : xe_P d 219 436 ls (.int v :: .ref a :: st) h Q = ((xe_ia h a ∧ xe_ix h a v) ∧ xe_P d 219 437 ls (.int (xe_I h a v.toNatClampNeg) :: st) h Q) := xe_P_iald (by decide +kernel)
theorem xs_219_437 : xe_P d 219 437 [.ref a, l1, l2, l3] st h Q = xe_P d 219 438 [.ref a, l1, l2, l3] (.ref a :: st) h Q := xe_P_lo (ins := .aload_n 0) (len := 1) (by decide +kernel) rfl rfl
theorem xs_219_438 : xe_P d 219 438 [l0, l1, l2, .int x] st h Q = xe_P d 219 439 [l0, l1, l2, .int x] (.int x :: st) h Q := xe_P_lo (ins := .iload_n 3) (len := 1) (by decide +kernel) rfl rfl
theorem xs_219_439 : xe_P d 219 439 ls st h Q = xe_P d 219 440 ls (.int 2 :: st) h Q := xe_P_ar (ins := .iconst 2) (len := 1) (by decide +kernel) rfl
theorem xs_219_440 : xe_P d 219 440 ls (.int v :: .int x :: st) h Q = xe_P d 219 441 ls (.int (x + v) :: st) h Q := xe_P_ar (ins := .iadd) (len := 1) (by decide +kernel) rfl
theorem xs_219_441 : xe_P d 219 441 ls (.int v :: .ref a :: st) h Q = ((xe_ia h a ∧ xe_ix h a v) ∧ xe_P d 219 442 ls (.int (xe_I h a v.toNatClampNeg) :: st) h Q) := xe_P_iald (by decide +kernel)
theorem xs_219_442 : xe_P d 219 442 ls (v1 :: v0 :: .ref a :: st) h Q = ((xe_w st ≤ 8 ∧ xe_ob h a 7) ∧ xe_C d 156 [.ref a, v0, v1] h (fun r h' => xe_P d 219 445 ls (r.toList ++ st) h' Q)) := xe_P_ivv (y := 219) (pc := 442) (z := 156) (i := 58) (vs := [v1, v0]) (by decide +kernel) (by decide +kernel) rfl (by decide +kernel)
theorem xs_219_445 : xe_P d 219 445 ls (.int v :: .int x :: st) h Q = (if x = v then xe_P d 219 1216 ls st h Q else xe_P d 219 448 ls st h Q) := xe_P_if (ins := .if_icmp .eq 771) (len := 3) (off := 771) (by decide +kernel) (by decide) rfl rfl rfl
theorem xs_219_448 : xe_P d 219 448 ls st h Q = xe_P d 219 449 ls (.int 0 :: st) h Q := xe_P_ar (ins := .iconst 0) (len := 1) (by decide +kernel) rfl
theorem xs_219_449 : xe_P d 219 449 ls [.int x] h Q = ((x = 0 ∨ x = 1) ∧ Q (some (.int x)) h) := xe_P_zreturn (by decide +kernel) rfl
theorem xs_219_450 : xe_P d 219 450 [l0, .ref a, l2, l3] st h Q = xe_P d 219 451 [l0, .ref a, l2, l3] (.ref a :: st) h Q := xe_P_lo (ins := .aload_n 1) (len := 1) (by decide +kernel) rfl rfl
theorem xs_219_451 : xe_P d 219 451 [.ref a, l1, l2, l3] st h Q = xe_P d 219 452 [.ref a, l1, l2, l3] (.ref a :: st) h Q := xe_P_lo (ins := .aload_n 0) (len := 1) (by decide +kernel) rfl rfl
theorem xs_219_452 : xe_P d 219 452 [l0, l1, l2, .int x] st h Q = xe_P d 219 453 [l0, l1, l2, .int x] (.int x :: st) h Q := xe_P_lo (ins := .iload_n 3) (len := 1) (by decide +kernel) rfl rfl
theorem xs_219_453 : xe_P d 219 453 ls st h Q = xe_P d 219 454 ls (.int 1 :: st) h Q := xe_P_ar (ins := .iconst 1) (len := 1) (by decide +kernel) rfl
theorem xs_219_454 : xe_P d 219 454 ls (.int v :: .int x :: st) h Q = xe_P d 219 455 ls (.int (x + v) :: st) h Q := xe_P_ar (ins := .iadd) (len := 1) (by decide +kernel) rfl
theorem xs_219_455 : xe_P d 219 455 ls (.int v :: .ref a :: st) h Q = ((xe_ia h a ∧ xe_ix h a v) ∧ xe_P d 219 456 ls (.int (xe_I h a v.toNatClampNeg) :: st) h Q) := xe_P_iald (by decide +kernel)
theorem xs_219_456 : xe_P d 219 456 [.ref a, l1, l2, l3] st h Q = xe_P d 219 457 [.ref a, l1, l2, l3] (.ref a :: st) h Q := xe_P_lo (ins := .aload_n 0) (len := 1) (by decide +kernel) rfl rfl
theorem xs_219_457 : xe_P d 219 457 [l0, l1, l2, .int x] st h Q = xe_P d 219 458 [l0, l1, l2, .int x] (.int x :: st) h Q := xe_P_lo (ins := .iload_n 3) (len := 1) (by decide +kernel) rfl rfl
theorem xs_219_458 : xe_P d 219 458 ls st h Q = xe_P d 219 459 ls (.int 2 :: st) h Q := xe_P_ar (ins := .iconst 2) (len := 1) (by decide +kernel) rfl
theorem xs_219_459 : xe_P d 219 459 ls (.int v :: .int x :: st) h Q = xe_P d 219 460 ls (.int (x + v) :: st) h Q := xe_P_ar (ins := .iadd) (len := 1) (by decide +kernel) rfl
theorem xs_219_460 : xe_P d 219 460 ls (.int v :: .ref a :: st) h Q = ((xe_ia h a ∧ xe_ix h a v) ∧ xe_P d 219 461 ls (.int (xe_I h a v.toNatClampNeg) :: st) h Q) := xe_P_iald (by decide +kernel)
theorem xs_219_461 : xe_P d 219 461 ls (v1 :: v0 :: .ref a :: st) h Q = ((xe_w st ≤ 8 ∧ xe_ob h a 6) ∧ xe_C d 93 [.ref a, v0, v1] h (fun r h' => xe_P d 219 464 ls (r.toList ++ st) h' Q)) := xe_P_ivv (y := 219) (pc := 461) (z := 93) (i := 59) (vs := [v1, v0]) (by decide +kernel) (by decide +kernel) rfl (by decide +kernel)
theorem xs_219_464 : xe_P d 219 464 [l0, l1, .ref a, l3] st h Q = xe_P d 219 465 [l0, l1, .ref a, l3] (.ref a :: st) h Q := xe_P_lo (ins := .aload_n 2) (len := 1) (by decide +kernel) rfl rfl
theorem xs_219_465 : xe_P d 219 465 [.ref a, l1, l2, l3] st h Q = xe_P d 219 466 [.ref a, l1, l2, l3] (.ref a :: st) h Q := xe_P_lo (ins := .aload_n 0) (len := 1) (by decide +kernel) rfl rfl
theorem xs_219_466 : xe_P d 219 466 [l0, l1, l2, .int x] st h Q = xe_P d 219 467 [l0, l1, l2, .int x] (.int x :: st) h Q := xe_P_lo (ins := .iload_n 3) (len := 1) (by decide +kernel) rfl rfl
theorem xs_219_467 : xe_P d 219 467 ls st h Q = xe_P d 219 468 ls (.int 1 :: st) h Q := xe_P_ar (ins := .iconst 1) (len := 1) (by decide +kernel) rfl
theorem xs_219_468 : xe_P d 219 468 ls (.int v :: .int x :: st) h Q = xe_P d 219 469 ls (.int (x + v) :: st) h Q := xe_P_ar (ins := .iadd) (len := 1) (by decide +kernel) rfl
theorem xs_219_469 : xe_P d 219 469 ls (.int v :: .ref a :: st) h Q = ((xe_ia h a ∧ xe_ix h a v) ∧ xe_P d 219 470 ls (.int (xe_I h a v.toNatClampNeg) :: st) h Q) := xe_P_iald (by decide +kernel)
theorem xs_219_470 : xe_P d 219 470 [.ref a, l1, l2, l3] st h Q = xe_P d 219 471 [.ref a, l1, l2, l3] (.ref a :: st) h Q := xe_P_lo (ins := .aload_n 0) (len := 1) (by decide +kernel) rfl rfl
theorem xs_219_471 : xe_P d 219 471 [l0, l1, l2, .int x] st h Q = xe_P d 219 472 [l0, l1, l2, .int x] (.int x :: st) h Q := xe_P_lo (ins := .iload_n 3) (len := 1) (by decide +kernel) rfl rfl
theorem xs_219_472 : xe_P d 219 472 ls st h Q = xe_P d 219 473 ls (.int 2 :: st) h Q := xe_P_ar (ins := .iconst 2) (len := 1) (by decide +kernel) rfl
theorem xs_219_473 : xe_P d 219 473 ls (.int v :: .int x :: st) h Q = xe_P d 219 474 ls (.int (x + v) :: st) h Q := xe_P_ar (ins := .iadd) (len := 1) (by decide +kernel) rfl
theorem xs_219_474 : xe_P d 219 474 ls (.int v :: .ref a :: st) h Q = ((xe_ia h a ∧ xe_ix h a v) ∧ xe_P d 219 475 ls (.int (xe_I h a v.toNatClampNeg) :: st) h Q) := xe_P_iald (by decide +kernel)
theorem xs_219_475 : xe_P d 219 475 ls (v1 :: v0 :: .ref a :: st) h Q = ((xe_w st ≤ 8 ∧ xe_ob h a 7) ∧ xe_C d 157 [.ref a, v0, v1] h (fun r h' => xe_P d 219 478 ls (r.toList ++ st) h' Q)) := xe_P_ivv (y := 219) (pc := 475) (z := 157) (i := 62) (vs := [v1, v0]) (by decide +kernel) (by decide +kernel) rfl (by decide +kernel)
theorem xs_219_478 : xe_P d 219 478 ls (.int v :: .int x :: st) h Q = (if x = v then xe_P d 219 1216 ls st h Q else xe_P d 219 481 ls st h Q) := xe_P_if (ins := .if_icmp .eq 738) (len := 3) (off := 738) (by decide +kernel) (by decide) rfl rfl rfl
theorem xs_219_481 : xe_P d 219 481 ls st h Q = xe_P d 219 482 ls (.int 0 :: st) h Q := xe_P_ar (ins := .iconst 0) (len := 1) (by decide +kernel) rfl
theorem xs_219_482 : xe_P d 219 482 ls [.int x] h Q = ((x = 0 ∨ x = 1) ∧ Q (some (.int x)) h) := xe_P_zreturn (by decide +kernel) rfl
theorem xs_219_483 : xe_P d 219 483 [l0, .ref a, l2, l3] st h Q = xe_P d 219 484 [l0, .ref a, l2, l3] (.ref a :: st) h Q := xe_P_lo (ins := .aload_n 1) (len := 1) (by decide +kernel) rfl rfl
theorem xs_219_484 : xe_P d 219 484 [.ref a, l1, l2, l3] st h Q = xe_P d 219 485 [.ref a, l1, l2, l3] (.ref a :: st) h Q := xe_P_lo (ins := .aload_n 0) (len := 1) (by decide +kernel) rfl rfl
theorem xs_219_485 : xe_P d 219 485 [l0, l1, l2, .int x] st h Q = xe_P d 219 486 [l0, l1, l2, .int x] (.int x :: st) h Q := xe_P_lo (ins := .iload_n 3) (len := 1) (by decide +kernel) rfl rfl
theorem xs_219_486 : xe_P d 219 486 ls st h Q = xe_P d 219 487 ls (.int 1 :: st) h Q := xe_P_ar (ins := .iconst 1) (len := 1) (by decide +kernel) rfl
theorem xs_219_487 : xe_P d 219 487 ls (.int v :: .int x :: st) h Q = xe_P d 219 488 ls (.int (x + v) :: st) h Q := xe_P_ar (ins := .iadd) (len := 1) (by decide +kernel) rfl
theorem xs_219_488 : xe_P d 219 488 ls (.int v :: .ref a :: st) h Q = ((xe_ia h a ∧ xe_ix h a v) ∧ xe_P d 219 489 ls (.int (xe_I h a v.toNatClampNeg) :: st) h Q) := xe_P_iald (by decide +kernel)
theorem xs_219_489 : xe_P d 219 489 [.ref a, l1, l2, l3] st h Q = xe_P d 219 490 [.ref a, l1, l2, l3] (.ref a :: st) h Q := xe_P_lo (ins := .aload_n 0) (len := 1) (by decide +kernel) rfl rfl
theorem xs_219_490 : xe_P d 219 490 [l0, l1, l2, .int x] st h Q = xe_P d 219 491 [l0, l1, l2, .int x] (.int x :: st) h Q := xe_P_lo (ins := .iload_n 3) (len := 1) (by decide +kernel) rfl rfl
theorem xs_219_491 : xe_P d 219 491 ls st h Q = xe_P d 219 492 ls (.int 2 :: st) h Q := xe_P_ar (ins := .iconst 2) (len := 1) (by decide +kernel) rfl
theorem xs_219_492 : xe_P d 219 492 ls (.int v :: .int x :: st) h Q = xe_P d 219 493 ls (.int (x + v) :: st) h Q := xe_P_ar (ins := .iadd) (len := 1) (by decide +kernel) rfl
theorem xs_219_493 : xe_P d 219 493 ls (.int v :: .ref a :: st) h Q = ((xe_ia h a ∧ xe_ix h a v) ∧ xe_P d 219 494 ls (.int (xe_I h a v.toNatClampNeg) :: st) h Q) := xe_P_iald (by decide +kernel)
theorem xs_219_494 : xe_P d 219 494 [.ref a, l1, l2, l3] st h Q = xe_P d 219 495 [.ref a, l1, l2, l3] (.ref a :: st) h Q := xe_P_lo (ins := .aload_n 0) (len := 1) (by decide +kernel) rfl rfl
theorem xs_219_495 : xe_P d 219 495 [l0, l1, l2, .int x] st h Q = xe_P d 219 496 [l0, l1, l2, .int x] (.int x :: st) h Q := xe_P_lo (ins := .iload_n 3) (len := 1) (by decide +kernel) rfl rfl
theorem xs_219_496 : xe_P d 219 496 ls st h Q = xe_P d 219 497 ls (.int 3 :: st) h Q := xe_P_ar (ins := .iconst 3) (len := 1) (by decide +kernel) rfl
theorem xs_219_497 : xe_P d 219 497 ls (.int v :: .int x :: st) h Q = xe_P d 219 498 ls (.int (x + v) :: st) h Q := xe_P_ar (ins := .iadd) (len := 1) (by decide +kernel) rfl
theorem xs_219_498 : xe_P d 219 498 ls (.int v :: .ref a :: st) h Q = ((xe_ia h a ∧ xe_ix h a v) ∧ xe_P d 219 499 ls (.int (xe_I h a v.toNatClampNeg) :: st) h Q) := xe_P_iald (by decide +kernel)
theorem xs_219_499 : xe_P d 219 499 ls (v2 :: v1 :: v0 :: .ref a :: st) h Q = ((xe_w st ≤ 8 ∧ xe_ob h a 6) ∧ xe_C d 94 [.ref a, v0, v1, v2] h (fun r h' => xe_P d 219 502 ls (r.toList ++ st) h' Q)) := xe_P_ivv (y := 219) (pc := 499) (z := 94) (i := 63) (vs := [v2, v1, v0]) (by decide +kernel) (by decide +kernel) rfl (by decide +kernel)
theorem xs_219_502 : xe_P d 219 502 [l0, l1, .ref a, l3] st h Q = xe_P d 219 503 [l0, l1, .ref a, l3] (.ref a :: st) h Q := xe_P_lo (ins := .aload_n 2) (len := 1) (by decide +kernel) rfl rfl
theorem xs_219_503 : xe_P d 219 503 [.ref a, l1, l2, l3] st h Q = xe_P d 219 504 [.ref a, l1, l2, l3] (.ref a :: st) h Q := xe_P_lo (ins := .aload_n 0) (len := 1) (by decide +kernel) rfl rfl
theorem xs_219_504 : xe_P d 219 504 [l0, l1, l2, .int x] st h Q = xe_P d 219 505 [l0, l1, l2, .int x] (.int x :: st) h Q := xe_P_lo (ins := .iload_n 3) (len := 1) (by decide +kernel) rfl rfl
theorem xs_219_505 : xe_P d 219 505 ls st h Q = xe_P d 219 506 ls (.int 1 :: st) h Q := xe_P_ar (ins := .iconst 1) (len := 1) (by decide +kernel) rfl
theorem xs_219_506 : xe_P d 219 506 ls (.int v :: .int x :: st) h Q = xe_P d 219 507 ls (.int (x + v) :: st) h Q := xe_P_ar (ins := .iadd) (len := 1) (by decide +kernel) rfl
theorem xs_219_507 : xe_P d 219 507 ls (.int v :: .ref a :: st) h Q = ((xe_ia h a ∧ xe_ix h a v) ∧ xe_P d 219 508 ls (.int (xe_I h a v.toNatClampNeg) :: st) h Q) := xe_P_iald (by decide +kernel)
theorem xs_219_508 : xe_P d 219 508 [.ref a, l1, l2, l3] st h Q = xe_P d 219 509 [.ref a, l1, l2, l3] (.ref a :: st) h Q := xe_P_lo (ins := .aload_n 0) (len := 1) (by decide +kernel) rfl rfl
theorem xs_219_509 : xe_P d 219 509 [l0, l1, l2, .int x] st h Q = xe_P d 219 510 [l0, l1, l2, .int x] (.int x :: st) h Q := xe_P_lo (ins := .iload_n 3) (len := 1) (by decide +kernel) rfl rfl
theorem xs_219_510 : xe_P d 219 510 ls st h Q = xe_P d 219 511 ls (.int 2 :: st) h Q := xe_P_ar (ins := .iconst 2) (len := 1) (by decide +kernel) rfl
theorem xs_219_511 : xe_P d 219 511 ls (.int v :: .int x :: st) h Q = xe_P d 219 512 ls (.int (x + v) :: st) h Q := xe_P_ar (ins := .iadd) (len := 1) (by decide +kernel) rfl
theorem xs_219_512 : xe_P d 219 512 ls (.int v :: .ref a :: st) h Q = ((xe_ia h a ∧ xe_ix h a v) ∧ xe_P d 219 513 ls (.int (xe_I h a v.toNatClampNeg) :: st) h Q) := xe_P_iald (by decide +kernel)
theorem xs_219_513 : xe_P d 219 513 [.ref a, l1, l2, l3] st h Q = xe_P d 219 514 [.ref a, l1, l2, l3] (.ref a :: st) h Q := xe_P_lo (ins := .aload_n 0) (len := 1) (by decide +kernel) rfl rfl
theorem xs_219_514 : xe_P d 219 514 [l0, l1, l2, .int x] st h Q = xe_P d 219 515 [l0, l1, l2, .int x] (.int x :: st) h Q := xe_P_lo (ins := .iload_n 3) (len := 1) (by decide +kernel) rfl rfl
theorem xs_219_515 : xe_P d 219 515 ls st h Q = xe_P d 219 516 ls (.int 3 :: st) h Q := xe_P_ar (ins := .iconst 3) (len := 1) (by decide +kernel) rfl
theorem xs_219_516 : xe_P d 219 516 ls (.int v :: .int x :: st) h Q = xe_P d 219 517 ls (.int (x + v) :: st) h Q := xe_P_ar (ins := .iadd) (len := 1) (by decide +kernel) rfl
theorem xs_219_517 : xe_P d 219 517 ls (.int v :: .ref a :: st) h Q = ((xe_ia h a ∧ xe_ix h a v) ∧ xe_P d 219 518 ls (.int (xe_I h a v.toNatClampNeg) :: st) h Q) := xe_P_iald (by decide +kernel)
theorem xs_219_518 : xe_P d 219 518 ls (v2 :: v1 :: v0 :: .ref a :: st) h Q = ((xe_w st ≤ 8 ∧ xe_ob h a 7) ∧ xe_C d 158 [.ref a, v0, v1, v2] h (fun r h' => xe_P d 219 521 ls (r.toList ++ st) h' Q)) := xe_P_ivv (y := 219) (pc := 518) (z := 158) (i := 67) (vs := [v2, v1, v0]) (by decide +kernel) (by decide +kernel) rfl (by decide +kernel)
theorem xs_219_521 : xe_P d 219 521 ls (.int v :: .int x :: st) h Q = (if x = v then xe_P d 219 1216 ls st h Q else xe_P d 219 524 ls st h Q) := xe_P_if (ins := .if_icmp .eq 695) (len := 3) (off := 695) (by decide +kernel) (by decide) rfl rfl rfl
theorem xs_219_524 : xe_P d 219 524 ls st h Q = xe_P d 219 525 ls (.int 0 :: st) h Q := xe_P_ar (ins := .iconst 0) (len := 1) (by decide +kernel) rfl
theorem xs_219_525 : xe_P d 219 525 ls [.int x] h Q = ((x = 0 ∨ x = 1) ∧ Q (some (.int x)) h) := xe_P_zreturn (by decide +kernel) rfl
theorem xs_219_526 : xe_P d 219 526 [l0, .ref a, l2, l3] st h Q = xe_P d 219 527 [l0, .ref a, l2, l3] (.ref a :: st) h Q := xe_P_lo (ins := .aload_n 1) (len := 1) (by decide +kernel) rfl rfl
theorem xs_219_527 : xe_P d 219 527 [.ref a, l1, l2, l3] st h Q = xe_P d 219 528 [.ref a, l1, l2, l3] (.ref a :: st) h Q := xe_P_lo (ins := .aload_n 0) (len := 1) (by decide +kernel) rfl rfl
theorem xs_219_528 : xe_P d 219 528 [l0, l1, l2, .int x] st h Q = xe_P d 219 529 [l0, l1, l2, .int x] (.int x :: st) h Q := xe_P_lo (ins := .iload_n 3) (len := 1) (by decide +kernel) rfl rfl
theorem xs_219_529 : xe_P d 219 529 ls st h Q = xe_P d 219 530 ls (.int 1 :: st) h Q := xe_P_ar (ins := .iconst 1) (len := 1) (by decide +kernel) rfl
theorem xs_219_530 : xe_P d 219 530 ls (.int v :: .int x :: st) h Q = xe_P d 219 531 ls (.int (x + v) :: st) h Q := xe_P_ar (ins := .iadd) (len := 1) (by decide +kernel) rfl
theorem xs_219_531 : xe_P d 219 531 ls (.int v :: .ref a :: st) h Q = ((xe_ia h a ∧ xe_ix h a v) ∧ xe_P d 219 532 ls (.int (xe_I h a v.toNatClampNeg) :: st) h Q) := xe_P_iald (by decide +kernel)
theorem xs_219_532 : xe_P d 219 532 ls (v0 :: .ref a :: st) h Q = ((xe_w st ≤ 8 ∧ xe_ob h a 6) ∧ xe_C d 95 [.ref a, v0] h (fun r h' => xe_P d 219 535 ls (r.toList ++ st) h' Q)) := xe_P_ivv (y := 219) (pc := 532) (z := 95) (i := 68) (vs := [v0]) (by decide +kernel) (by decide +kernel) rfl (by decide +kernel)
theorem xs_219_535 : xe_P d 219 535 [l0, l1, .ref a, l3] st h Q = xe_P d 219 536 [l0, l1, .ref a, l3] (.ref a :: st) h Q := xe_P_lo (ins := .aload_n 2) (len := 1) (by decide +kernel) rfl rfl
theorem xs_219_536 : xe_P d 219 536 [.ref a, l1, l2, l3] st h Q = xe_P d 219 537 [.ref a, l1, l2, l3] (.ref a :: st) h Q := xe_P_lo (ins := .aload_n 0) (len := 1) (by decide +kernel) rfl rfl
theorem xs_219_537 : xe_P d 219 537 [l0, l1, l2, .int x] st h Q = xe_P d 219 538 [l0, l1, l2, .int x] (.int x :: st) h Q := xe_P_lo (ins := .iload_n 3) (len := 1) (by decide +kernel) rfl rfl
theorem xs_219_538 : xe_P d 219 538 ls st h Q = xe_P d 219 539 ls (.int 1 :: st) h Q := xe_P_ar (ins := .iconst 1) (len := 1) (by decide +kernel) rfl
theorem xs_219_539 : xe_P d 219 539 ls (.int v :: .int x :: st) h Q = xe_P d 219 540 ls (.int (x + v) :: st) h Q := xe_P_ar (ins := .iadd) (len := 1) (by decide +kernel) rfl
theorem xs_219_540 : xe_P d 219 540 ls (.int v :: .ref a :: st) h Q = ((xe_ia h a ∧ xe_ix h a v) ∧ xe_P d 219 541 ls (.int (xe_I h a v.toNatClampNeg) :: st) h Q) := xe_P_iald (by decide +kernel)
theorem xs_219_541 : xe_P d 219 541 ls (v0 :: .ref a :: st) h Q = ((xe_w st ≤ 8 ∧ xe_ob h a 7) ∧ xe_C d 160 [.ref a, v0] h (fun r h' => xe_P d 219 544 ls (r.toList ++ st) h' Q)) := xe_P_ivv (y := 219) (pc := 541) (z := 160) (i := 71) (vs := [v0]) (by decide +kernel) (by decide +kernel) rfl (by decide +kernel)
theorem xs_219_544 : xe_P d 219 544 ls (.int v :: .int x :: st) h Q = (if x = v then xe_P d 219 1216 ls st h Q else xe_P d 219 547 ls st h Q) := xe_P_if (ins := .if_icmp .eq 672) (len := 3) (off := 672) (by decide +kernel) (by decide) rfl rfl rfl
theorem xs_219_547 : xe_P d 219 547 ls st h Q = xe_P d 219 548 ls (.int 0 :: st) h Q := xe_P_ar (ins := .iconst 0) (len := 1) (by decide +kernel) rfl
theorem xs_219_548 : xe_P d 219 548 ls [.int x] h Q = ((x = 0 ∨ x = 1) ∧ Q (some (.int x)) h) := xe_P_zreturn (by decide +kernel) rfl
theorem xs_219_549 : xe_P d 219 549 [l0, .ref a, l2, l3] st h Q = xe_P d 219 550 [l0, .ref a, l2, l3] (.ref a :: st) h Q := xe_P_lo (ins := .aload_n 1) (len := 1) (by decide +kernel) rfl rfl
theorem xs_219_550 : xe_P d 219 550 [.ref a, l1, l2, l3] st h Q = xe_P d 219 551 [.ref a, l1, l2, l3] (.ref a :: st) h Q := xe_P_lo (ins := .aload_n 0) (len := 1) (by decide +kernel) rfl rfl
theorem xs_219_551 : xe_P d 219 551 [l0, l1, l2, .int x] st h Q = xe_P d 219 552 [l0, l1, l2, .int x] (.int x :: st) h Q := xe_P_lo (ins := .iload_n 3) (len := 1) (by decide +kernel) rfl rfl
theorem xs_219_552 : xe_P d 219 552 ls st h Q = xe_P d 219 553 ls (.int 1 :: st) h Q := xe_P_ar (ins := .iconst 1) (len := 1) (by decide +kernel) rfl
theorem xs_219_553 : xe_P d 219 553 ls (.int v :: .int x :: st) h Q = xe_P d 219 554 ls (.int (x + v) :: st) h Q := xe_P_ar (ins := .iadd) (len := 1) (by decide +kernel) rfl
theorem xs_219_554 : xe_P d 219 554 ls (.int v :: .ref a :: st) h Q = ((xe_ia h a ∧ xe_ix h a v) ∧ xe_P d 219 555 ls (.int (xe_I h a v.toNatClampNeg) :: st) h Q) := xe_P_iald (by decide +kernel)
theorem xs_219_555 : xe_P d 219 555 [.ref a, l1, l2, l3] st h Q = xe_P d 219 556 [.ref a, l1, l2, l3] (.ref a :: st) h Q := xe_P_lo (ins := .aload_n 0) (len := 1) (by decide +kernel) rfl rfl
theorem xs_219_556 : xe_P d 219 556 [l0, l1, l2, .int x] st h Q = xe_P d 219 557 [l0, l1, l2, .int x] (.int x :: st) h Q := xe_P_lo (ins := .iload_n 3) (len := 1) (by decide +kernel) rfl rfl
theorem xs_219_557 : xe_P d 219 557 ls st h Q = xe_P d 219 558 ls (.int 2 :: st) h Q := xe_P_ar (ins := .iconst 2) (len := 1) (by decide +kernel) rfl
theorem xs_219_558 : xe_P d 219 558 ls (.int v :: .int x :: st) h Q = xe_P d 219 559 ls (.int (x + v) :: st) h Q := xe_P_ar (ins := .iadd) (len := 1) (by decide +kernel) rfl
theorem xs_219_559 : xe_P d 219 559 ls (.int v :: .ref a :: st) h Q = ((xe_ia h a ∧ xe_ix h a v) ∧ xe_P d 219 560 ls (.int (xe_I h a v.toNatClampNeg) :: st) h Q) := xe_P_iald (by decide +kernel)
theorem xs_219_560 : xe_P d 219 560 ls (v1 :: v0 :: .ref a :: st) h Q = ((xe_w st ≤ 8 ∧ xe_ob h a 6) ∧ xe_C d 96 [.ref a, v0, v1] h (fun r h' => xe_P d 219 563 ls (r.toList ++ st) h' Q)) := xe_P_ivv (y := 219) (pc := 560) (z := 96) (i := 72) (vs := [v1, v0]) (by decide +kernel) (by decide +kernel) rfl (by decide +kernel)
theorem xs_219_563 : xe_P d 219 563 [l0, l1, .ref a, l3] st h Q = xe_P d 219 564 [l0, l1, .ref a, l3] (.ref a :: st) h Q := xe_P_lo (ins := .aload_n 2) (len := 1) (by decide +kernel) rfl rfl
theorem xs_219_564 : xe_P d 219 564 [.ref a, l1, l2, l3] st h Q = xe_P d 219 565 [.ref a, l1, l2, l3] (.ref a :: st) h Q := xe_P_lo (ins := .aload_n 0) (len := 1) (by decide +kernel) rfl rfl
theorem xs_219_565 : xe_P d 219 565 [l0, l1, l2, .int x] st h Q = xe_P d 219 566 [l0, l1, l2, .int x] (.int x :: st) h Q := xe_P_lo (ins := .iload_n 3) (len := 1) (by decide +kernel) rfl rfl
theorem xs_219_566 : xe_P d 219 566 ls st h Q = xe_P d 219 567 ls (.int 1 :: st) h Q := xe_P_ar (ins := .iconst 1) (len := 1) (by decide +kernel) rfl
theorem xs_219_567 : xe_P d 219 567 ls (.int v :: .int x :: st) h Q = xe_P d 219 568 ls (.int (x + v) :: st) h Q := xe_P_ar (ins := .iadd) (len := 1) (by decide +kernel) rfl
theorem xs_219_568 : xe_P d 219 568 ls (.int v :: .ref a :: st) h Q = ((xe_ia h a ∧ xe_ix h a v) ∧ xe_P d 219 569 ls (.int (xe_I h a v.toNatClampNeg) :: st) h Q) := xe_P_iald (by decide +kernel)
theorem xs_219_569 : xe_P d 219 569 [.ref a, l1, l2, l3] st h Q = xe_P d 219 570 [.ref a, l1, l2, l3] (.ref a :: st) h Q := xe_P_lo (ins := .aload_n 0) (len := 1) (by decide +kernel) rfl rfl
theorem xs_219_570 : xe_P d 219 570 [l0, l1, l2, .int x] st h Q = xe_P d 219 571 [l0, l1, l2, .int x] (.int x :: st) h Q := xe_P_lo (ins := .iload_n 3) (len := 1) (by decide +kernel) rfl rfl
theorem xs_219_571 : xe_P d 219 571 ls st h Q = xe_P d 219 572 ls (.int 2 :: st) h Q := xe_P_ar (ins := .iconst 2) (len := 1) (by decide +kernel) rfl
theorem xs_219_572 : xe_P d 219 572 ls (.int v :: .int x :: st) h Q = xe_P d 219 573 ls (.int (x + v) :: st) h Q := xe_P_ar (ins := .iadd) (len := 1) (by decide +kernel) rfl
theorem xs_219_573 : xe_P d 219 573 ls (.int v :: .ref a :: st) h Q = ((xe_ia h a ∧ xe_ix h a v) ∧ xe_P d 219 574 ls (.int (xe_I h a v.toNatClampNeg) :: st) h Q) := xe_P_iald (by decide +kernel)
theorem xs_219_574 : xe_P d 219 574 ls (v1 :: v0 :: .ref a :: st) h Q = ((xe_w st ≤ 8 ∧ xe_ob h a 7) ∧ xe_C d 166 [.ref a, v0, v1] h (fun r h' => xe_P d 219 577 ls (r.toList ++ st) h' Q)) := xe_P_ivv (y := 219) (pc := 574) (z := 166) (i := 75) (vs := [v1, v0]) (by decide +kernel) (by decide +kernel) rfl (by decide +kernel)
theorem xs_219_577 : xe_P d 219 577 ls (.int v :: .int x :: st) h Q = (if x = v then xe_P d 219 1216 ls st h Q else xe_P d 219 580 ls st h Q) := xe_P_if (ins := .if_icmp .eq 639) (len := 3) (off := 639) (by decide +kernel) (by decide) rfl rfl rfl
theorem xs_219_580 : xe_P d 219 580 ls st h Q = xe_P d 219 581 ls (.int 0 :: st) h Q := xe_P_ar (ins := .iconst 0) (len := 1) (by decide +kernel) rfl
theorem xs_219_581 : xe_P d 219 581 ls [.int x] h Q = ((x = 0 ∨ x = 1) ∧ Q (some (.int x)) h) := xe_P_zreturn (by decide +kernel) rfl
theorem xs_219_582 : xe_P d 219 582 [l0, .ref a, l2, l3] st h Q = xe_P d 219 583 [l0, .ref a, l2, l3] (.ref a :: st) h Q := xe_P_lo (ins := .aload_n 1) (len := 1) (by decide +kernel) rfl rfl
theorem xs_219_583 : xe_P d 219 583 [.ref a, l1, l2, l3] st h Q = xe_P d 219 584 [.ref a, l1, l2, l3] (.ref a :: st) h Q := xe_P_lo (ins := .aload_n 0) (len := 1) (by decide +kernel) rfl rfl
theorem xs_219_584 : xe_P d 219 584 [l0, l1, l2, .int x] st h Q = xe_P d 219 585 [l0, l1, l2, .int x] (.int x :: st) h Q := xe_P_lo (ins := .iload_n 3) (len := 1) (by decide +kernel) rfl rfl
theorem xs_219_585 : xe_P d 219 585 ls st h Q = xe_P d 219 586 ls (.int 1 :: st) h Q := xe_P_ar (ins := .iconst 1) (len := 1) (by decide +kernel) rfl
theorem xs_219_586 : xe_P d 219 586 ls (.int v :: .int x :: st) h Q = xe_P d 219 587 ls (.int (x + v) :: st) h Q := xe_P_ar (ins := .iadd) (len := 1) (by decide +kernel) rfl
theorem xs_219_587 : xe_P d 219 587 ls (.int v :: .ref a :: st) h Q = ((xe_ia h a ∧ xe_ix h a v) ∧ xe_P d 219 588 ls (.int (xe_I h a v.toNatClampNeg) :: st) h Q) := xe_P_iald (by decide +kernel)
theorem xs_219_588 : xe_P d 219 588 ls (v0 :: .ref a :: st) h Q = ((xe_w st ≤ 8 ∧ xe_ob h a 6) ∧ xe_C d 97 [.ref a, v0] h (fun r h' => xe_P d 219 591 ls (r.toList ++ st) h' Q)) := xe_P_ivv (y := 219) (pc := 588) (z := 97) (i := 76) (vs := [v0]) (by decide +kernel) (by decide +kernel) rfl (by decide +kernel)
theorem xs_219_591 : xe_P d 219 591 [l0, l1, .ref a, l3] st h Q = xe_P d 219 592 [l0, l1, .ref a, l3] (.ref a :: st) h Q := xe_P_lo (ins := .aload_n 2) (len := 1) (by decide +kernel) rfl rfl
theorem xs_219_592 : xe_P d 219 592 [.ref a, l1, l2, l3] st h Q = xe_P d 219 593 [.ref a, l1, l2, l3] (.ref a :: st) h Q := xe_P_lo (ins := .aload_n 0) (len := 1) (by decide +kernel) rfl rfl
theorem xs_219_593 : xe_P d 219 593 [l0, l1, l2, .int x] st h Q = xe_P d 219 594 [l0, l1, l2, .int x] (.int x :: st) h Q := xe_P_lo (ins := .iload_n 3) (len := 1) (by decide +kernel) rfl rfl
theorem xs_219_594 : xe_P d 219 594 ls st h Q = xe_P d 219 595 ls (.int 1 :: st) h Q := xe_P_ar (ins := .iconst 1) (len := 1) (by decide +kernel) rfl
theorem xs_219_595 : xe_P d 219 595 ls (.int v :: .int x :: st) h Q = xe_P d 219 596 ls (.int (x + v) :: st) h Q := xe_P_ar (ins := .iadd) (len := 1) (by decide +kernel) rfl
theorem xs_219_596 : xe_P d 219 596 ls (.int v :: .ref a :: st) h Q = ((xe_ia h a ∧ xe_ix h a v) ∧ xe_P d 219 597 ls (.int (xe_I h a v.toNatClampNeg) :: st) h Q) := xe_P_iald (by decide +kernel)
theorem xs_219_597 : xe_P d 219 597 ls (v0 :: .ref a :: st) h Q = ((xe_w st ≤ 8 ∧ xe_ob h a 7) ∧ xe_C d 167 [.ref a, v0] h (fun r h' => xe_P d 219 600 ls (r.toList ++ st) h' Q)) := xe_P_ivv (y := 219) (pc := 597) (z := 167) (i := 79) (vs := [v0]) (by decide +kernel) (by decide +kernel) rfl (by decide +kernel)
theorem xs_219_600 : xe_P d 219 600 ls (.int v :: .int x :: st) h Q = (if x = v then xe_P d 219 1216 ls st h Q else xe_P d 219 603 ls st h Q) := xe_P_if (ins := .if_icmp .eq 616) (len := 3) (off := 616) (by decide +kernel) (by decide) rfl rfl rfl
theorem xs_219_603 : xe_P d 219 603 ls st h Q = xe_P d 219 604 ls (.int 0 :: st) h Q := xe_P_ar (ins := .iconst 0) (len := 1) (by decide +kernel) rfl
theorem xs_219_604 : xe_P d 219 604 ls [.int x] h Q = ((x = 0 ∨ x = 1) ∧ Q (some (.int x)) h) := xe_P_zreturn (by decide +kernel) rfl
theorem xs_219_605 : xe_P d 219 605 [l0, .ref a, l2, l3] st h Q = xe_P d 219 606 [l0, .ref a, l2, l3] (.ref a :: st) h Q := xe_P_lo (ins := .aload_n 1) (len := 1) (by decide +kernel) rfl rfl
theorem xs_219_606 : xe_P d 219 606 [.ref a, l1, l2, l3] st h Q = xe_P d 219 607 [.ref a, l1, l2, l3] (.ref a :: st) h Q := xe_P_lo (ins := .aload_n 0) (len := 1) (by decide +kernel) rfl rfl
theorem xs_219_607 : xe_P d 219 607 [l0, l1, l2, .int x] st h Q = xe_P d 219 608 [l0, l1, l2, .int x] (.int x :: st) h Q := xe_P_lo (ins := .iload_n 3) (len := 1) (by decide +kernel) rfl rfl
theorem xs_219_608 : xe_P d 219 608 ls st h Q = xe_P d 219 609 ls (.int 1 :: st) h Q := xe_P_ar (ins := .iconst 1) (len := 1) (by decide +kernel) rfl
theorem xs_219_609 : xe_P d 219 609 ls (.int v :: .int x :: st) h Q = xe_P d 219 610 ls (.int (x + v) :: st) h Q := xe_P_ar (ins := .iadd) (len := 1) (by decide +kernel) rfl
theorem xs_219_610 : xe_P d 219 610 ls (.int v :: .ref a :: st) h Q = ((xe_ia h a ∧ xe_ix h a v) ∧ xe_P d 219 611 ls (.int (xe_I h a v.toNatClampNeg) :: st) h Q) := xe_P_iald (by decide +kernel)
theorem xs_219_611 : xe_P d 219 611 [.ref a, l1, l2, l3] st h Q = xe_P d 219 612 [.ref a, l1, l2, l3] (.ref a :: st) h Q := xe_P_lo (ins := .aload_n 0) (len := 1) (by decide +kernel) rfl rfl
theorem xs_219_612 : xe_P d 219 612 [l0, l1, l2, .int x] st h Q = xe_P d 219 613 [l0, l1, l2, .int x] (.int x :: st) h Q := xe_P_lo (ins := .iload_n 3) (len := 1) (by decide +kernel) rfl rfl
theorem xs_219_613 : xe_P d 219 613 ls st h Q = xe_P d 219 614 ls (.int 2 :: st) h Q := xe_P_ar (ins := .iconst 2) (len := 1) (by decide +kernel) rfl
theorem xs_219_614 : xe_P d 219 614 ls (.int v :: .int x :: st) h Q = xe_P d 219 615 ls (.int (x + v) :: st) h Q := xe_P_ar (ins := .iadd) (len := 1) (by decide +kernel) rfl
theorem xs_219_615 : xe_P d 219 615 ls (.int v :: .ref a :: st) h Q = ((xe_ia h a ∧ xe_ix h a v) ∧ xe_P d 219 616 ls (.int (xe_I h a v.toNatClampNeg) :: st) h Q) := xe_P_iald (by decide +kernel)
theorem xs_219_616 : xe_P d 219 616 [.ref a, l1, l2, l3] st h Q = xe_P d 219 617 [.ref a, l1, l2, l3] (.ref a :: st) h Q := xe_P_lo (ins := .aload_n 0) (len := 1) (by decide +kernel) rfl rfl
theorem xs_219_617 : xe_P d 219 617 [l0, l1, l2, .int x] st h Q = xe_P d 219 618 [l0, l1, l2, .int x] (.int x :: st) h Q := xe_P_lo (ins := .iload_n 3) (len := 1) (by decide +kernel) rfl rfl
theorem xs_219_618 : xe_P d 219 618 ls st h Q = xe_P d 219 619 ls (.int 3 :: st) h Q := xe_P_ar (ins := .iconst 3) (len := 1) (by decide +kernel) rfl
theorem xs_219_619 : xe_P d 219 619 ls (.int v :: .int x :: st) h Q = xe_P d 219 620 ls (.int (x + v) :: st) h Q := xe_P_ar (ins := .iadd) (len := 1) (by decide +kernel) rfl
theorem xs_219_620 : xe_P d 219 620 ls (.int v :: .ref a :: st) h Q = ((xe_ia h a ∧ xe_ix h a v) ∧ xe_P d 219 621 ls (.int (xe_I h a v.toNatClampNeg) :: st) h Q) := xe_P_iald (by decide +kernel)
theorem xs_219_621 : xe_P d 219 621 ls (v2 :: v1 :: v0 :: .ref a :: st) h Q = ((xe_w st ≤ 8 ∧ xe_ob h a 6) ∧ xe_C d 98 [.ref a, v0, v1, v2] h (fun r h' => xe_P d 219 624 ls (r.toList ++ st) h' Q)) := xe_P_ivv (y := 219) (pc := 621) (z := 98) (i := 80) (vs := [v2, v1, v0]) (by decide +kernel) (by decide +kernel) rfl (by decide +kernel)
theorem xs_219_624 : xe_P d 219 624 [l0, l1, .ref a, l3] st h Q = xe_P d 219 625 [l0, l1, .ref a, l3] (.ref a :: st) h Q := xe_P_lo (ins := .aload_n 2) (len := 1) (by decide +kernel) rfl rfl
theorem xs_219_625 : xe_P d 219 625 [.ref a, l1, l2, l3] st h Q = xe_P d 219 626 [.ref a, l1, l2, l3] (.ref a :: st) h Q := xe_P_lo (ins := .aload_n 0) (len := 1) (by decide +kernel) rfl rfl
theorem xs_219_626 : xe_P d 219 626 [l0, l1, l2, .int x] st h Q = xe_P d 219 627 [l0, l1, l2, .int x] (.int x :: st) h Q := xe_P_lo (ins := .iload_n 3) (len := 1) (by decide +kernel) rfl rfl
theorem xs_219_627 : xe_P d 219 627 ls st h Q = xe_P d 219 628 ls (.int 1 :: st) h Q := xe_P_ar (ins := .iconst 1) (len := 1) (by decide +kernel) rfl
theorem xs_219_628 : xe_P d 219 628 ls (.int v :: .int x :: st) h Q = xe_P d 219 629 ls (.int (x + v) :: st) h Q := xe_P_ar (ins := .iadd) (len := 1) (by decide +kernel) rfl
theorem xs_219_629 : xe_P d 219 629 ls (.int v :: .ref a :: st) h Q = ((xe_ia h a ∧ xe_ix h a v) ∧ xe_P d 219 630 ls (.int (xe_I h a v.toNatClampNeg) :: st) h Q) := xe_P_iald (by decide +kernel)
theorem xs_219_630 : xe_P d 219 630 [.ref a, l1, l2, l3] st h Q = xe_P d 219 631 [.ref a, l1, l2, l3] (.ref a :: st) h Q := xe_P_lo (ins := .aload_n 0) (len := 1) (by decide +kernel) rfl rfl
theorem xs_219_631 : xe_P d 219 631 [l0, l1, l2, .int x] st h Q = xe_P d 219 632 [l0, l1, l2, .int x] (.int x :: st) h Q := xe_P_lo (ins := .iload_n 3) (len := 1) (by decide +kernel) rfl rfl
theorem xs_219_632 : xe_P d 219 632 ls st h Q = xe_P d 219 633 ls (.int 2 :: st) h Q := xe_P_ar (ins := .iconst 2) (len := 1) (by decide +kernel) rfl
theorem xs_219_633 : xe_P d 219 633 ls (.int v :: .int x :: st) h Q = xe_P d 219 634 ls (.int (x + v) :: st) h Q := xe_P_ar (ins := .iadd) (len := 1) (by decide +kernel) rfl
theorem xs_219_634 : xe_P d 219 634 ls (.int v :: .ref a :: st) h Q = ((xe_ia h a ∧ xe_ix h a v) ∧ xe_P d 219 635 ls (.int (xe_I h a v.toNatClampNeg) :: st) h Q) := xe_P_iald (by decide +kernel)
theorem xs_219_635 : xe_P d 219 635 [.ref a, l1, l2, l3] st h Q = xe_P d 219 636 [.ref a, l1, l2, l3] (.ref a :: st) h Q := xe_P_lo (ins := .aload_n 0) (len := 1) (by decide +kernel) rfl rfl
theorem xs_219_636 : xe_P d 219 636 [l0, l1, l2, .int x] st h Q = xe_P d 219 637 [l0, l1, l2, .int x] (.int x :: st) h Q := xe_P_lo (ins := .iload_n 3) (len := 1) (by decide +kernel) rfl rfl
theorem xs_219_637 : xe_P d 219 637 ls st h Q = xe_P d 219 638 ls (.int 3 :: st) h Q := xe_P_ar (ins := .iconst 3) (len := 1) (by decide +kernel) rfl
theorem xs_219_638 : xe_P d 219 638 ls (.int v :: .int x :: st) h Q = xe_P d 219 639 ls (.int (x + v) :: st) h Q := xe_P_ar (ins := .iadd) (len := 1) (by decide +kernel) rfl
theorem xs_219_639 : xe_P d 219 639 ls (.int v :: .ref a :: st) h Q = ((xe_ia h a ∧ xe_ix h a v) ∧ xe_P d 219 640 ls (.int (xe_I h a v.toNatClampNeg) :: st) h Q) := xe_P_iald (by decide +kernel)
theorem xs_219_640 : xe_P d 219 640 ls (v2 :: v1 :: v0 :: .ref a :: st) h Q = ((xe_w st ≤ 8 ∧ xe_ob h a 7) ∧ xe_C d 168 [.ref a, v0, v1, v2] h (fun r h' => xe_P d 219 643 ls (r.toList ++ st) h' Q)) := xe_P_ivv (y := 219) (pc := 640) (z := 168) (i := 83) (vs := [v2, v1, v0]) (by decide +kernel) (by decide +kernel) rfl (by decide +kernel)
theorem xs_219_643 : xe_P d 219 643 ls (.int v :: .int x :: st) h Q = (if x = v then xe_P d 219 1216 ls st h Q else xe_P d 219 646 ls st h Q) := xe_P_if (ins := .if_icmp .eq 573) (len := 3) (off := 573) (by decide +kernel) (by decide) rfl rfl rfl
theorem xs_219_646 : xe_P d 219 646 ls st h Q = xe_P d 219 647 ls (.int 0 :: st) h Q := xe_P_ar (ins := .iconst 0) (len := 1) (by decide +kernel) rfl
theorem xs_219_647 : xe_P d 219 647 ls [.int x] h Q = ((x = 0 ∨ x = 1) ∧ Q (some (.int x)) h) := xe_P_zreturn (by decide +kernel) rfl
theorem xs_219_648 : xe_P d 219 648 [l0, .ref a, l2, l3] st h Q = xe_P d 219 649 [l0, .ref a, l2, l3] (.ref a :: st) h Q := xe_P_lo (ins := .aload_n 1) (len := 1) (by decide +kernel) rfl rfl
theorem xs_219_649 : xe_P d 219 649 ls (.ref a :: st) h Q = ((xe_w st ≤ 8 ∧ xe_ob h a 6) ∧ xe_C d 99 [.ref a] h (fun r h' => xe_P d 219 652 ls (r.toList ++ st) h' Q)) := xe_P_ivv (y := 219) (pc := 649) (z := 99) (i := 84) (vs := []) (by decide +kernel) (by decide +kernel) rfl (by decide +kernel)
theorem xs_219_652 : xe_P d 219 652 [l0, l1, .ref a, l3] st h Q = xe_P d 219 653 [l0, l1, .ref a, l3] (.ref a :: st) h Q := xe_P_lo (ins := .aload_n 2) (len := 1) (by decide +kernel) rfl rfl
theorem xs_219_653 : xe_P d 219 653 ls (.ref a :: st) h Q = ((xe_w st ≤ 8 ∧ xe_ob h a 7) ∧ xe_C d 169 [.ref a] h (fun r h' => xe_P d 219 656 ls (r.toList ++ st) h' Q)) := xe_P_ivv (y := 219) (pc := 653) (z := 169) (i := 87) (vs := []) (by decide +kernel) (by decide +kernel) rfl (by decide +kernel)
theorem xs_219_656 : xe_P d 219 656 ls (.int v :: .int x :: st) h Q = (if x = v then xe_P d 219 1216 ls st h Q else xe_P d 219 659 ls st h Q) := xe_P_if (ins := .if_icmp .eq 560) (len := 3) (off := 560) (by decide +kernel) (by decide) rfl rfl rfl
theorem xs_219_659 : xe_P d 219 659 ls st h Q = xe_P d 219 660 ls (.int 0 :: st) h Q := xe_P_ar (ins := .iconst 0) (len := 1) (by decide +kernel) rfl
theorem xs_219_660 : xe_P d 219 660 ls [.int x] h Q = ((x = 0 ∨ x = 1) ∧ Q (some (.int x)) h) := xe_P_zreturn (by decide +kernel) rfl
theorem xs_219_661 : xe_P d 219 661 [l0, .ref a, l2, l3] st h Q = xe_P d 219 662 [l0, .ref a, l2, l3] (.ref a :: st) h Q := xe_P_lo (ins := .aload_n 1) (len := 1) (by decide +kernel) rfl rfl
theorem xs_219_662 : xe_P d 219 662 [.ref a, l1, l2, l3] st h Q = xe_P d 219 663 [.ref a, l1, l2, l3] (.ref a :: st) h Q := xe_P_lo (ins := .aload_n 0) (len := 1) (by decide +kernel) rfl rfl
theorem xs_219_663 : xe_P d 219 663 [l0, l1, l2, .int x] st h Q = xe_P d 219 664 [l0, l1, l2, .int x] (.int x :: st) h Q := xe_P_lo (ins := .iload_n 3) (len := 1) (by decide +kernel) rfl rfl
theorem xs_219_664 : xe_P d 219 664 ls st h Q = xe_P d 219 665 ls (.int 1 :: st) h Q := xe_P_ar (ins := .iconst 1) (len := 1) (by decide +kernel) rfl
theorem xs_219_665 : xe_P d 219 665 ls (.int v :: .int x :: st) h Q = xe_P d 219 666 ls (.int (x + v) :: st) h Q := xe_P_ar (ins := .iadd) (len := 1) (by decide +kernel) rfl
theorem xs_219_666 : xe_P d 219 666 ls (.int v :: .ref a :: st) h Q = ((xe_ia h a ∧ xe_ix h a v) ∧ xe_P d 219 667 ls (.int (xe_I h a v.toNatClampNeg) :: st) h Q) := xe_P_iald (by decide +kernel)
theorem xs_219_667 : xe_P d 219 667 [.ref a, l1, l2, l3] st h Q = xe_P d 219 668 [.ref a, l1, l2, l3] (.ref a :: st) h Q := xe_P_lo (ins := .aload_n 0) (len := 1) (by decide +kernel) rfl rfl
theorem xs_219_668 : xe_P d 219 668 [l0, l1, l2, .int x] st h Q = xe_P d 219 669 [l0, l1, l2, .int x] (.int x :: st) h Q := xe_P_lo (ins := .iload_n 3) (len := 1) (by decide +kernel) rfl rfl
theorem xs_219_669 : xe_P d 219 669 ls st h Q = xe_P d 219 670 ls (.int 2 :: st) h Q := xe_P_ar (ins := .iconst 2) (len := 1) (by decide +kernel) rfl
theorem xs_219_670 : xe_P d 219 670 ls (.int v :: .int x :: st) h Q = xe_P d 219 671 ls (.int (x + v) :: st) h Q := xe_P_ar (ins := .iadd) (len := 1) (by decide +kernel) rfl
theorem xs_219_671 : xe_P d 219 671 ls (.int v :: .ref a :: st) h Q = ((xe_ia h a ∧ xe_ix h a v) ∧ xe_P d 219 672 ls (.int (xe_I h a v.toNatClampNeg) :: st) h Q) := xe_P_iald (by decide +kernel)
theorem xs_219_672 : xe_P d 219 672 [.ref a, l1, l2, l3] st h Q = xe_P d 219 673 [.ref a, l1, l2, l3] (.ref a :: st) h Q := xe_P_lo (ins := .aload_n 0) (len := 1) (by decide +kernel) rfl rfl
theorem xs_219_673 : xe_P d 219 673 [l0, l1, l2, .int x] st h Q = xe_P d 219 674 [l0, l1, l2, .int x] (.int x :: st) h Q := xe_P_lo (ins := .iload_n 3) (len := 1) (by decide +kernel) rfl rfl
theorem xs_219_674 : xe_P d 219 674 ls st h Q = xe_P d 219 675 ls (.int 3 :: st) h Q := xe_P_ar (ins := .iconst 3) (len := 1) (by decide +kernel) rfl
theorem xs_219_675 : xe_P d 219 675 ls (.int v :: .int x :: st) h Q = xe_P d 219 676 ls (.int (x + v) :: st) h Q := xe_P_ar (ins := .iadd) (len := 1) (by decide +kernel) rfl
theorem xs_219_676 : xe_P d 219 676 ls (.int v :: .ref a :: st) h Q = ((xe_ia h a ∧ xe_ix h a v) ∧ xe_P d 219 677 ls (.int (xe_I h a v.toNatClampNeg) :: st) h Q) := xe_P_iald (by decide +kernel)
theorem xs_219_677 : xe_P d 219 677 [.ref a, l1, l2, l3] st h Q = xe_P d 219 678 [.ref a, l1, l2, l3] (.ref a :: st) h Q := xe_P_lo (ins := .aload_n 0) (len := 1) (by decide +kernel) rfl rfl
theorem xs_219_678 : xe_P d 219 678 [l0, l1, l2, .int x] st h Q = xe_P d 219 679 [l0, l1, l2, .int x] (.int x :: st) h Q := xe_P_lo (ins := .iload_n 3) (len := 1) (by decide +kernel) rfl rfl
theorem xs_219_679 : xe_P d 219 679 ls st h Q = xe_P d 219 680 ls (.int 4 :: st) h Q := xe_P_ar (ins := .iconst 4) (len := 1) (by decide +kernel) rfl
theorem xs_219_680 : xe_P d 219 680 ls (.int v :: .int x :: st) h Q = xe_P d 219 681 ls (.int (x + v) :: st) h Q := xe_P_ar (ins := .iadd) (len := 1) (by decide +kernel) rfl
theorem xs_219_681 : xe_P d 219 681 ls (.int v :: .ref a :: st) h Q = ((xe_ia h a ∧ xe_ix h a v) ∧ xe_P d 219 682 ls (.int (xe_I h a v.toNatClampNeg) :: st) h Q) := xe_P_iald (by decide +kernel)
theorem xs_219_682 : xe_P d 219 682 ls (v3 :: v2 :: v1 :: v0 :: .ref a :: st) h Q = ((xe_w st ≤ 8 ∧ xe_ob h a 6) ∧ xe_C d 100 [.ref a, v0, v1, v2, v3] h (fun r h' => xe_P d 219 685 ls (r.toList ++ st) h' Q)) := xe_P_ivv (y := 219) (pc := 682) (z := 100) (i := 88) (vs := [v3, v2, v1, v0]) (by decide +kernel) (by decide +kernel) rfl (by decide +kernel)
theorem xs_219_685 : xe_P d 219 685 [l0, l1, .ref a, l3] st h Q = xe_P d 219 686 [l0, l1, .ref a, l3] (.ref a :: st) h Q := xe_P_lo (ins := .aload_n 2) (len := 1) (by decide +kernel) rfl rfl
theorem xs_219_686 : xe_P d 219 686 [.ref a, l1, l2, l3] st h Q = xe_P d 219 687 [.ref a, l1, l2, l3] (.ref a :: st) h Q := xe_P_lo (ins := .aload_n 0) (len := 1) (by decide +kernel) rfl rfl
theorem xs_219_687 : xe_P d 219 687 [l0, l1, l2, .int x] st h Q = xe_P d 219 688 [l0, l1, l2, .int x] (.int x :: st) h Q := xe_P_lo (ins := .iload_n 3) (len := 1) (by decide +kernel) rfl rfl
theorem xs_219_688 : xe_P d 219 688 ls st h Q = xe_P d 219 689 ls (.int 1 :: st) h Q := xe_P_ar (ins := .iconst 1) (len := 1) (by decide +kernel) rfl
theorem xs_219_689 : xe_P d 219 689 ls (.int v :: .int x :: st) h Q = xe_P d 219 690 ls (.int (x + v) :: st) h Q := xe_P_ar (ins := .iadd) (len := 1) (by decide +kernel) rfl
theorem xs_219_690 : xe_P d 219 690 ls (.int v :: .ref a :: st) h Q = ((xe_ia h a ∧ xe_ix h a v) ∧ xe_P d 219 691 ls (.int (xe_I h a v.toNatClampNeg) :: st) h Q) := xe_P_iald (by decide +kernel)
theorem xs_219_691 : xe_P d 219 691 [.ref a, l1, l2, l3] st h Q = xe_P d 219 692 [.ref a, l1, l2, l3] (.ref a :: st) h Q := xe_P_lo (ins := .aload_n 0) (len := 1) (by decide +kernel) rfl rfl
theorem xs_219_692 : xe_P d 219 692 [l0, l1, l2, .int x] st h Q = xe_P d 219 693 [l0, l1, l2, .int x] (.int x :: st) h Q := xe_P_lo (ins := .iload_n 3) (len := 1) (by decide +kernel) rfl rfl
theorem xs_219_693 : xe_P d 219 693 ls st h Q = xe_P d 219 694 ls (.int 2 :: st) h Q := xe_P_ar (ins := .iconst 2) (len := 1) (by decide +kernel) rfl
theorem xs_219_694 : xe_P d 219 694 ls (.int v :: .int x :: st) h Q = xe_P d 219 695 ls (.int (x + v) :: st) h Q := xe_P_ar (ins := .iadd) (len := 1) (by decide +kernel) rfl
theorem xs_219_695 : xe_P d 219 695 ls (.int v :: .ref a :: st) h Q = ((xe_ia h a ∧ xe_ix h a v) ∧ xe_P d 219 696 ls (.int (xe_I h a v.toNatClampNeg) :: st) h Q) := xe_P_iald (by decide +kernel)
theorem xs_219_696 : xe_P d 219 696 [.ref a, l1, l2, l3] st h Q = xe_P d 219 697 [.ref a, l1, l2, l3] (.ref a :: st) h Q := xe_P_lo (ins := .aload_n 0) (len := 1) (by decide +kernel) rfl rfl
theorem xs_219_697 : xe_P d 219 697 [l0, l1, l2, .int x] st h Q = xe_P d 219 698 [l0, l1, l2, .int x] (.int x :: st) h Q := xe_P_lo (ins := .iload_n 3) (len := 1) (by decide +kernel) rfl rfl
theorem xs_219_698 : xe_P d 219 698 ls st h Q = xe_P d 219 699 ls (.int 3 :: st) h Q := xe_P_ar (ins := .iconst 3) (len := 1) (by decide +kernel) rfl
theorem xs_219_699 : xe_P d 219 699 ls (.int v :: .int x :: st) h Q = xe_P d 219 700 ls (.int (x + v) :: st) h Q := xe_P_ar (ins := .iadd) (len := 1) (by decide +kernel) rfl
theorem xs_219_700 : xe_P d 219 700 ls (.int v :: .ref a :: st) h Q = ((xe_ia h a ∧ xe_ix h a v) ∧ xe_P d 219 701 ls (.int (xe_I h a v.toNatClampNeg) :: st) h Q) := xe_P_iald (by decide +kernel)
theorem xs_219_701 : xe_P d 219 701 [.ref a, l1, l2, l3] st h Q = xe_P d 219 702 [.ref a, l1, l2, l3] (.ref a :: st) h Q := xe_P_lo (ins := .aload_n 0) (len := 1) (by decide +kernel) rfl rfl
theorem xs_219_702 : xe_P d 219 702 [l0, l1, l2, .int x] st h Q = xe_P d 219 703 [l0, l1, l2, .int x] (.int x :: st) h Q := xe_P_lo (ins := .iload_n 3) (len := 1) (by decide +kernel) rfl rfl
theorem xs_219_703 : xe_P d 219 703 ls st h Q = xe_P d 219 704 ls (.int 4 :: st) h Q := xe_P_ar (ins := .iconst 4) (len := 1) (by decide +kernel) rfl
theorem xs_219_704 : xe_P d 219 704 ls (.int v :: .int x :: st) h Q = xe_P d 219 705 ls (.int (x + v) :: st) h Q := xe_P_ar (ins := .iadd) (len := 1) (by decide +kernel) rfl
theorem xs_219_705 : xe_P d 219 705 ls (.int v :: .ref a :: st) h Q = ((xe_ia h a ∧ xe_ix h a v) ∧ xe_P d 219 706 ls (.int (xe_I h a v.toNatClampNeg) :: st) h Q) := xe_P_iald (by decide +kernel)
theorem xs_219_706 : xe_P d 219 706 ls (v3 :: v2 :: v1 :: v0 :: .ref a :: st) h Q = ((xe_w st ≤ 8 ∧ xe_ob h a 7) ∧ xe_C d 170 [.ref a, v0, v1, v2, v3] h (fun r h' => xe_P d 219 709 ls (r.toList ++ st) h' Q)) := xe_P_ivv (y := 219) (pc := 706) (z := 170) (i := 92) (vs := [v3, v2, v1, v0]) (by decide +kernel) (by decide +kernel) rfl (by decide +kernel)
theorem xs_219_709 : xe_P d 219 709 ls (.int v :: .int x :: st) h Q = (if x = v then xe_P d 219 1216 ls st h Q else xe_P d 219 712 ls st h Q) := xe_P_if (ins := .if_icmp .eq 507) (len := 3) (off := 507) (by decide +kernel) (by decide) rfl rfl rfl
theorem xs_219_712 : xe_P d 219 712 ls st h Q = xe_P d 219 713 ls (.int 0 :: st) h Q := xe_P_ar (ins := .iconst 0) (len := 1) (by decide +kernel) rfl
theorem xs_219_713 : xe_P d 219 713 ls [.int x] h Q = ((x = 0 ∨ x = 1) ∧ Q (some (.int x)) h) := xe_P_zreturn (by decide +kernel) rfl
theorem xs_219_714 : xe_P d 219 714 [l0, .ref a, l2, l3] st h Q = xe_P d 219 715 [l0, .ref a, l2, l3] (.ref a :: st) h Q := xe_P_lo (ins := .aload_n 1) (len := 1) (by decide +kernel) rfl rfl
theorem xs_219_715 : xe_P d 219 715 [.ref a, l1, l2, l3] st h Q = xe_P d 219 716 [.ref a, l1, l2, l3] (.ref a :: st) h Q := xe_P_lo (ins := .aload_n 0) (len := 1) (by decide +kernel) rfl rfl
theorem xs_219_716 : xe_P d 219 716 [l0, l1, l2, .int x] st h Q = xe_P d 219 717 [l0, l1, l2, .int x] (.int x :: st) h Q := xe_P_lo (ins := .iload_n 3) (len := 1) (by decide +kernel) rfl rfl
theorem xs_219_717 : xe_P d 219 717 ls st h Q = xe_P d 219 718 ls (.int 1 :: st) h Q := xe_P_ar (ins := .iconst 1) (len := 1) (by decide +kernel) rfl
theorem xs_219_718 : xe_P d 219 718 ls (.int v :: .int x :: st) h Q = xe_P d 219 719 ls (.int (x + v) :: st) h Q := xe_P_ar (ins := .iadd) (len := 1) (by decide +kernel) rfl
theorem xs_219_719 : xe_P d 219 719 ls (.int v :: .ref a :: st) h Q = ((xe_ia h a ∧ xe_ix h a v) ∧ xe_P d 219 720 ls (.int (xe_I h a v.toNatClampNeg) :: st) h Q) := xe_P_iald (by decide +kernel)
theorem xs_219_720 : xe_P d 219 720 [.ref a, l1, l2, l3] st h Q = xe_P d 219 721 [.ref a, l1, l2, l3] (.ref a :: st) h Q := xe_P_lo (ins := .aload_n 0) (len := 1) (by decide +kernel) rfl rfl
theorem xs_219_721 : xe_P d 219 721 [l0, l1, l2, .int x] st h Q = xe_P d 219 722 [l0, l1, l2, .int x] (.int x :: st) h Q := xe_P_lo (ins := .iload_n 3) (len := 1) (by decide +kernel) rfl rfl
theorem xs_219_722 : xe_P d 219 722 ls st h Q = xe_P d 219 723 ls (.int 2 :: st) h Q := xe_P_ar (ins := .iconst 2) (len := 1) (by decide +kernel) rfl
theorem xs_219_723 : xe_P d 219 723 ls (.int v :: .int x :: st) h Q = xe_P d 219 724 ls (.int (x + v) :: st) h Q := xe_P_ar (ins := .iadd) (len := 1) (by decide +kernel) rfl
theorem xs_219_724 : xe_P d 219 724 ls (.int v :: .ref a :: st) h Q = ((xe_ia h a ∧ xe_ix h a v) ∧ xe_P d 219 725 ls (.int (xe_I h a v.toNatClampNeg) :: st) h Q) := xe_P_iald (by decide +kernel)
theorem xs_219_725 : xe_P d 219 725 [.ref a, l1, l2, l3] st h Q = xe_P d 219 726 [.ref a, l1, l2, l3] (.ref a :: st) h Q := xe_P_lo (ins := .aload_n 0) (len := 1) (by decide +kernel) rfl rfl
theorem xs_219_726 : xe_P d 219 726 [l0, l1, l2, .int x] st h Q = xe_P d 219 727 [l0, l1, l2, .int x] (.int x :: st) h Q := xe_P_lo (ins := .iload_n 3) (len := 1) (by decide +kernel) rfl rfl
theorem xs_219_727 : xe_P d 219 727 ls st h Q = xe_P d 219 728 ls (.int 3 :: st) h Q := xe_P_ar (ins := .iconst 3) (len := 1) (by decide +kernel) rfl
theorem xs_219_728 : xe_P d 219 728 ls (.int v :: .int x :: st) h Q = xe_P d 219 729 ls (.int (x + v) :: st) h Q := xe_P_ar (ins := .iadd) (len := 1) (by decide +kernel) rfl
theorem xs_219_729 : xe_P d 219 729 ls (.int v :: .ref a :: st) h Q = ((xe_ia h a ∧ xe_ix h a v) ∧ xe_P d 219 730 ls (.int (xe_I h a v.toNatClampNeg) :: st) h Q) := xe_P_iald (by decide +kernel)
theorem xs_219_730 : xe_P d 219 730 [.ref a, l1, l2, l3] st h Q = xe_P d 219 731 [.ref a, l1, l2, l3] (.ref a :: st) h Q := xe_P_lo (ins := .aload_n 0) (len := 1) (by decide +kernel) rfl rfl
theorem xs_219_731 : xe_P d 219 731 [l0, l1, l2, .int x] st h Q = xe_P d 219 732 [l0, l1, l2, .int x] (.int x :: st) h Q := xe_P_lo (ins := .iload_n 3) (len := 1) (by decide +kernel) rfl rfl
theorem xs_219_732 : xe_P d 219 732 ls st h Q = xe_P d 219 733 ls (.int 4 :: st) h Q := xe_P_ar (ins := .iconst 4) (len := 1) (by decide +kernel) rfl
theorem xs_219_733 : xe_P d 219 733 ls (.int v :: .int x :: st) h Q = xe_P d 219 734 ls (.int (x + v) :: st) h Q := xe_P_ar (ins := .iadd) (len := 1) (by decide +kernel) rfl
theorem xs_219_734 : xe_P d 219 734 ls (.int v :: .ref a :: st) h Q = ((xe_ia h a ∧ xe_ix h a v) ∧ xe_P d 219 735 ls (.int (xe_I h a v.toNatClampNeg) :: st) h Q) := xe_P_iald (by decide +kernel)
theorem xs_219_735 : xe_P d 219 735 ls (v3 :: v2 :: v1 :: v0 :: .ref a :: st) h Q = ((xe_w st ≤ 8 ∧ xe_ob h a 6) ∧ xe_C d 101 [.ref a, v0, v1, v2, v3] h (fun r h' => xe_P d 219 738 ls (r.toList ++ st) h' Q)) := xe_P_ivv (y := 219) (pc := 735) (z := 101) (i := 93) (vs := [v3, v2, v1, v0]) (by decide +kernel) (by decide +kernel) rfl (by decide +kernel)
theorem xs_219_738 : xe_P d 219 738 [l0, l1, .ref a, l3] st h Q = xe_P d 219 739 [l0, l1, .ref a, l3] (.ref a :: st) h Q := xe_P_lo (ins := .aload_n 2) (len := 1) (by decide +kernel) rfl rfl
theorem xs_219_739 : xe_P d 219 739 [.ref a, l1, l2, l3] st h Q = xe_P d 219 740 [.ref a, l1, l2, l3] (.ref a :: st) h Q := xe_P_lo (ins := .aload_n 0) (len := 1) (by decide +kernel) rfl rfl
theorem xs_219_740 : xe_P d 219 740 [l0, l1, l2, .int x] st h Q = xe_P d 219 741 [l0, l1, l2, .int x] (.int x :: st) h Q := xe_P_lo (ins := .iload_n 3) (len := 1) (by decide +kernel) rfl rfl
theorem xs_219_741 : xe_P d 219 741 ls st h Q = xe_P d 219 742 ls (.int 1 :: st) h Q := xe_P_ar (ins := .iconst 1) (len := 1) (by decide +kernel) rfl
theorem xs_219_742 : xe_P d 219 742 ls (.int v :: .int x :: st) h Q = xe_P d 219 743 ls (.int (x + v) :: st) h Q := xe_P_ar (ins := .iadd) (len := 1) (by decide +kernel) rfl
theorem xs_219_743 : xe_P d 219 743 ls (.int v :: .ref a :: st) h Q = ((xe_ia h a ∧ xe_ix h a v) ∧ xe_P d 219 744 ls (.int (xe_I h a v.toNatClampNeg) :: st) h Q) := xe_P_iald (by decide +kernel)
theorem xs_219_744 : xe_P d 219 744 [.ref a, l1, l2, l3] st h Q = xe_P d 219 745 [.ref a, l1, l2, l3] (.ref a :: st) h Q := xe_P_lo (ins := .aload_n 0) (len := 1) (by decide +kernel) rfl rfl
theorem xs_219_745 : xe_P d 219 745 [l0, l1, l2, .int x] st h Q = xe_P d 219 746 [l0, l1, l2, .int x] (.int x :: st) h Q := xe_P_lo (ins := .iload_n 3) (len := 1) (by decide +kernel) rfl rfl
theorem xs_219_746 : xe_P d 219 746 ls st h Q = xe_P d 219 747 ls (.int 2 :: st) h Q := xe_P_ar (ins := .iconst 2) (len := 1) (by decide +kernel) rfl
theorem xs_219_747 : xe_P d 219 747 ls (.int v :: .int x :: st) h Q = xe_P d 219 748 ls (.int (x + v) :: st) h Q := xe_P_ar (ins := .iadd) (len := 1) (by decide +kernel) rfl
theorem xs_219_748 : xe_P d 219 748 ls (.int v :: .ref a :: st) h Q = ((xe_ia h a ∧ xe_ix h a v) ∧ xe_P d 219 749 ls (.int (xe_I h a v.toNatClampNeg) :: st) h Q) := xe_P_iald (by decide +kernel)
theorem xs_219_749 : xe_P d 219 749 [.ref a, l1, l2, l3] st h Q = xe_P d 219 750 [.ref a, l1, l2, l3] (.ref a :: st) h Q := xe_P_lo (ins := .aload_n 0) (len := 1) (by decide +kernel) rfl rfl
theorem xs_219_750 : xe_P d 219 750 [l0, l1, l2, .int x] st h Q = xe_P d 219 751 [l0, l1, l2, .int x] (.int x :: st) h Q := xe_P_lo (ins := .iload_n 3) (len := 1) (by decide +kernel) rfl rfl
theorem xs_219_751 : xe_P d 219 751 ls st h Q = xe_P d 219 752 ls (.int 3 :: st) h Q := xe_P_ar (ins := .iconst 3) (len := 1) (by decide +kernel) rfl
theorem xs_219_752 : xe_P d 219 752 ls (.int v :: .int x :: st) h Q = xe_P d 219 753 ls (.int (x + v) :: st) h Q := xe_P_ar (ins := .iadd) (len := 1) (by decide +kernel) rfl
theorem xs_219_753 : xe_P d 219 753 ls (.int v :: .ref a :: st) h Q = ((xe_ia h a ∧ xe_ix h a v) ∧ xe_P d 219 754 ls (.int (xe_I h a v.toNatClampNeg) :: st) h Q) := xe_P_iald (by decide +kernel)
theorem xs_219_754 : xe_P d 219 754 [.ref a, l1, l2, l3] st h Q = xe_P d 219 755 [.ref a, l1, l2, l3] (.ref a :: st) h Q := xe_P_lo (ins := .aload_n 0) (len := 1) (by decide +kernel) rfl rfl
theorem xs_219_755 : xe_P d 219 755 [l0, l1, l2, .int x] st h Q = xe_P d 219 756 [l0, l1, l2, .int x] (.int x :: st) h Q := xe_P_lo (ins := .iload_n 3) (len := 1) (by decide +kernel) rfl rfl
theorem xs_219_756 : xe_P d 219 756 ls st h Q = xe_P d 219 757 ls (.int 4 :: st) h Q := xe_P_ar (ins := .iconst 4) (len := 1) (by decide +kernel) rfl
theorem xs_219_757 : xe_P d 219 757 ls (.int v :: .int x :: st) h Q = xe_P d 219 758 ls (.int (x + v) :: st) h Q := xe_P_ar (ins := .iadd) (len := 1) (by decide +kernel) rfl
theorem xs_219_758 : xe_P d 219 758 ls (.int v :: .ref a :: st) h Q = ((xe_ia h a ∧ xe_ix h a v) ∧ xe_P d 219 759 ls (.int (xe_I h a v.toNatClampNeg) :: st) h Q) := xe_P_iald (by decide +kernel)
theorem xs_219_759 : xe_P d 219 759 ls (v3 :: v2 :: v1 :: v0 :: .ref a :: st) h Q = ((xe_w st ≤ 8 ∧ xe_ob h a 7) ∧ xe_C d 178 [.ref a, v0, v1, v2, v3] h (fun r h' => xe_P d 219 762 ls (r.toList ++ st) h' Q)) := xe_P_ivv (y := 219) (pc := 759) (z := 178) (i := 96) (vs := [v3, v2, v1, v0]) (by decide +kernel) (by decide +kernel) rfl (by decide +kernel)
theorem xs_219_762 : xe_P d 219 762 ls (.int v :: .int x :: st) h Q = (if x = v then xe_P d 219 1216 ls st h Q else xe_P d 219 765 ls st h Q) := xe_P_if (ins := .if_icmp .eq 454) (len := 3) (off := 454) (by decide +kernel) (by decide) rfl rfl rfl
theorem xs_219_765 : xe_P d 219 765 ls st h Q = xe_P d 219 766 ls (.int 0 :: st) h Q := xe_P_ar (ins := .iconst 0) (len := 1) (by decide +kernel) rfl
theorem xs_219_766 : xe_P d 219 766 ls [.int x] h Q = ((x = 0 ∨ x = 1) ∧ Q (some (.int x)) h) := xe_P_zreturn (by decide +kernel) rfl
theorem xs_219_767 : xe_P d 219 767 [l0, .ref a, l2, l3] st h Q = xe_P d 219 768 [l0, .ref a, l2, l3] (.ref a :: st) h Q := xe_P_lo (ins := .aload_n 1) (len := 1) (by decide +kernel) rfl rfl
theorem xs_219_768 : xe_P d 219 768 [.ref a, l1, l2, l3] st h Q = xe_P d 219 769 [.ref a, l1, l2, l3] (.ref a :: st) h Q := xe_P_lo (ins := .aload_n 0) (len := 1) (by decide +kernel) rfl rfl
theorem xs_219_769 : xe_P d 219 769 [l0, l1, l2, .int x] st h Q = xe_P d 219 770 [l0, l1, l2, .int x] (.int x :: st) h Q := xe_P_lo (ins := .iload_n 3) (len := 1) (by decide +kernel) rfl rfl
theorem xs_219_770 : xe_P d 219 770 ls st h Q = xe_P d 219 771 ls (.int 1 :: st) h Q := xe_P_ar (ins := .iconst 1) (len := 1) (by decide +kernel) rfl
theorem xs_219_771 : xe_P d 219 771 ls (.int v :: .int x :: st) h Q = xe_P d 219 772 ls (.int (x + v) :: st) h Q := xe_P_ar (ins := .iadd) (len := 1) (by decide +kernel) rfl
theorem xs_219_772 : xe_P d 219 772 ls (.int v :: .ref a :: st) h Q = ((xe_ia h a ∧ xe_ix h a v) ∧ xe_P d 219 773 ls (.int (xe_I h a v.toNatClampNeg) :: st) h Q) := xe_P_iald (by decide +kernel)
theorem xs_219_773 : xe_P d 219 773 [.ref a, l1, l2, l3] st h Q = xe_P d 219 774 [.ref a, l1, l2, l3] (.ref a :: st) h Q := xe_P_lo (ins := .aload_n 0) (len := 1) (by decide +kernel) rfl rfl
theorem xs_219_774 : xe_P d 219 774 [l0, l1, l2, .int x] st h Q = xe_P d 219 775 [l0, l1, l2, .int x] (.int x :: st) h Q := xe_P_lo (ins := .iload_n 3) (len := 1) (by decide +kernel) rfl rfl
theorem xs_219_775 : xe_P d 219 775 ls st h Q = xe_P d 219 776 ls (.int 2 :: st) h Q := xe_P_ar (ins := .iconst 2) (len := 1) (by decide +kernel) rfl
theorem xs_219_776 : xe_P d 219 776 ls (.int v :: .int x :: st) h Q = xe_P d 219 777 ls (.int (x + v) :: st) h Q := xe_P_ar (ins := .iadd) (len := 1) (by decide +kernel) rfl
theorem xs_219_777 : xe_P d 219 777 ls (.int v :: .ref a :: st) h Q = ((xe_ia h a ∧ xe_ix h a v) ∧ xe_P d 219 778 ls (.int (xe_I h a v.toNatClampNeg) :: st) h Q) := xe_P_iald (by decide +kernel)
theorem xs_219_778 : xe_P d 219 778 ls (v1 :: v0 :: .ref a :: st) h Q = ((xe_w st ≤ 8 ∧ xe_ob h a 6) ∧ xe_C d 102 [.ref a, v0, v1] h (fun r h' => xe_P d 219 781 ls (r.toList ++ st) h' Q)) := xe_P_ivv (y := 219) (pc := 778) (z := 102) (i := 97) (vs := [v1, v0]) (by decide +kernel) (by decide +kernel) rfl (by decide +kernel)
theorem xs_219_781 : xe_P d 219 781 [l0, l1, .ref a, l3] st h Q = xe_P d 219 782 [l0, l1, .ref a, l3] (.ref a :: st) h Q := xe_P_lo (ins := .aload_n 2) (len := 1) (by decide +kernel) rfl rfl
theorem xs_219_782 : xe_P d 219 782 [.ref a, l1, l2, l3] st h Q = xe_P d 219 783 [.ref a, l1, l2, l3] (.ref a :: st) h Q := xe_P_lo (ins := .aload_n 0) (len := 1) (by decide +kernel) rfl rfl
theorem xs_219_783 : xe_P d 219 783 [l0, l1, l2, .int x] st h Q = xe_P d 219 784 [l0, l1, l2, .int x] (.int x :: st) h Q := xe_P_lo (ins := .iload_n 3) (len := 1) (by decide +kernel) rfl rfl
theorem xs_219_784 : xe_P d 219 784 ls st h Q = xe_P d 219 785 ls (.int 1 :: st) h Q := xe_P_ar (ins := .iconst 1) (len := 1) (by decide +kernel) rfl
theorem xs_219_785 : xe_P d 219 785 ls (.int v :: .int x :: st) h Q = xe_P d 219 786 ls (.int (x + v) :: st) h Q := xe_P_ar (ins := .iadd) (len := 1) (by decide +kernel) rfl
theorem xs_219_786 : xe_P d 219 786 ls (.int v :: .ref a :: st) h Q = ((xe_ia h a ∧ xe_ix h a v) ∧ xe_P d 219 787 ls (.int (xe_I h a v.toNatClampNeg) :: st) h Q) := xe_P_iald (by decide +kernel)
theorem xs_219_787 : xe_P d 219 787 [.ref a, l1, l2, l3] st h Q = xe_P d 219 788 [.ref a, l1, l2, l3] (.ref a :: st) h Q := xe_P_lo (ins := .aload_n 0) (len := 1) (by decide +kernel) rfl rfl
theorem xs_219_788 : xe_P d 219 788 [l0, l1, l2, .int x] st h Q = xe_P d 219 789 [l0, l1, l2, .int x] (.int x :: st) h Q := xe_P_lo (ins := .iload_n 3) (len := 1) (by decide +kernel) rfl rfl
theorem xs_219_789 : xe_P d 219 789 ls st h Q = xe_P d 219 790 ls (.int 2 :: st) h Q := xe_P_ar (ins := .iconst 2) (len := 1) (by decide +kernel) rfl
theorem xs_219_790 : xe_P d 219 790 ls (.int v :: .int x :: st) h Q = xe_P d 219 791 ls (.int (x + v) :: st) h Q := xe_P_ar (ins := .iadd) (len := 1) (by decide +kernel) rfl
theorem xs_219_791 : xe_P d 219 791 ls (.int v :: .ref a :: st) h Q = ((xe_ia h a ∧ xe_ix h a v) ∧ xe_P d 219 792 ls (.int (xe_I h a v.toNatClampNeg) :: st) h Q) := xe_P_iald (by decide +kernel)
theorem xs_219_792 : xe_P d 219 792 ls (v1 :: v0 :: .ref a :: st) h Q = ((xe_w st ≤ 8 ∧ xe_ob h a 7) ∧ xe_C d 179 [.ref a, v0, v1] h (fun r h' => xe_P d 219 795 ls (r.toList ++ st) h' Q)) := xe_P_ivv (y := 219) (pc := 792) (z := 179) (i := 100) (vs := [v1, v0]) (by decide +kernel) (by decide +kernel) rfl (by decide +kernel)
theorem xs_219_795 : xe_P d 219 795 ls (.int v :: .int x :: st) h Q = (if x = v then xe_P d 219 1216 ls st h Q else xe_P d 219 798 ls st h Q) := xe_P_if (ins := .if_icmp .eq 421) (len := 3) (off := 421) (by decide +kernel) (by decide) rfl rfl rfl
theorem xs_219_798 : xe_P d 219 798 ls st h Q = xe_P d 219 799 ls (.int 0 :: st) h Q := xe_P_ar (ins := .iconst 0) (len := 1) (by decide +kernel) rfl
theorem xs_219_799 : xe_P d 219 799 ls [.int x] h Q = ((x = 0 ∨ x = 1) ∧ Q (some (.int x)) h) := xe_P_zreturn (by decide +kernel) rfl
theorem xs_219_800 : xe_P d 219 800 [l0, .ref a, l2, l3] st h Q = xe_P d 219 801 [l0, .ref a, l2, l3] (.ref a :: st) h Q := xe_P_lo (ins := .aload_n 1) (len := 1) (by decide +kernel) rfl rfl
theorem xs_219_801 : xe_P d 219 801 [.ref a, l1, l2, l3] st h Q = xe_P d 219 802 [.ref a, l1, l2, l3] (.ref a :: st) h Q := xe_P_lo (ins := .aload_n 0) (len := 1) (by decide +kernel) rfl rfl
theorem xs_219_802 : xe_P d 219 802 [l0, l1, l2, .int x] st h Q = xe_P d 219 803 [l0, l1, l2, .int x] (.int x :: st) h Q := xe_P_lo (ins := .iload_n 3) (len := 1) (by decide +kernel) rfl rfl
theorem xs_219_803 : xe_P d 219 803 ls st h Q = xe_P d 219 804 ls (.int 1 :: st) h Q := xe_P_ar (ins := .iconst 1) (len := 1) (by decide +kernel) rfl
theorem xs_219_804 : xe_P d 219 804 ls (.int v :: .int x :: st) h Q = xe_P d 219 805 ls (.int (x + v) :: st) h Q := xe_P_ar (ins := .iadd) (len := 1) (by decide +kernel) rfl
theorem xs_219_805 : xe_P d 219 805 ls (.int v :: .ref a :: st) h Q = ((xe_ia h a ∧ xe_ix h a v) ∧ xe_P d 219 806 ls (.int (xe_I h a v.toNatClampNeg) :: st) h Q) := xe_P_iald (by decide +kernel)
theorem xs_219_806 : xe_P d 219 806 [.ref a, l1, l2, l3] st h Q = xe_P d 219 807 [.ref a, l1, l2, l3] (.ref a :: st) h Q := xe_P_lo (ins := .aload_n 0) (len := 1) (by decide +kernel) rfl rfl
theorem xs_219_807 : xe_P d 219 807 [l0, l1, l2, .int x] st h Q = xe_P d 219 808 [l0, l1, l2, .int x] (.int x :: st) h Q := xe_P_lo (ins := .iload_n 3) (len := 1) (by decide +kernel) rfl rfl
theorem xs_219_808 : xe_P d 219 808 ls st h Q = xe_P d 219 809 ls (.int 2 :: st) h Q := xe_P_ar (ins := .iconst 2) (len := 1) (by decide +kernel) rfl
theorem xs_219_809 : xe_P d 219 809 ls (.int v :: .int x :: st) h Q = xe_P d 219 810 ls (.int (x + v) :: st) h Q := xe_P_ar (ins := .iadd) (len := 1) (by decide +kernel) rfl
theorem xs_219_810 : xe_P d 219 810 ls (.int v :: .ref a :: st) h Q = ((xe_ia h a ∧ xe_ix h a v) ∧ xe_P d 219 811 ls (.int (xe_I h a v.toNatClampNeg) :: st) h Q) := xe_P_iald (by decide +kernel)
theorem xs_219_811 : xe_P d 219 811 [.ref a, l1, l2, l3] st h Q = xe_P d 219 812 [.ref a, l1, l2, l3] (.ref a :: st) h Q := xe_P_lo (ins := .aload_n 0) (len := 1) (by decide +kernel) rfl rfl
theorem xs_219_812 : xe_P d 219 812 [l0, l1, l2, .int x] st h Q = xe_P d 219 813 [l0, l1, l2, .int x] (.int x :: st) h Q := xe_P_lo (ins := .iload_n 3) (len := 1) (by decide +kernel) rfl rfl
theorem xs_219_813 : xe_P d 219 813 ls st h Q = xe_P d 219 814 ls (.int 3 :: st) h Q := xe_P_ar (ins := .iconst 3) (len := 1) (by decide +kernel) rfl
theorem xs_219_814 : xe_P d 219 814 ls (.int v :: .int x :: st) h Q = xe_P d 219 815 ls (.int (x + v) :: st) h Q := xe_P_ar (ins := .iadd) (len := 1) (by decide +kernel) rfl
theorem xs_219_815 : xe_P d 219 815 ls (.int v :: .ref a :: st) h Q = ((xe_ia h a ∧ xe_ix h a v) ∧ xe_P d 219 816 ls (.int (xe_I h a v.toNatClampNeg) :: st) h Q) := xe_P_iald (by decide +kernel)
theorem xs_219_816 : xe_P d 219 816 ls (v2 :: v1 :: v0 :: .ref a :: st) h Q = ((xe_w st ≤ 8 ∧ xe_ob h a 6) ∧ xe_C d 103 [.ref a, v0, v1, v2] h (fun r h' => xe_P d 219 819 ls (r.toList ++ st) h' Q)) := xe_P_ivv (y := 219) (pc := 816) (z := 103) (i := 101) (vs := [v2, v1, v0]) (by decide +kernel) (by decide +kernel) rfl (by decide +kernel)
theorem xs_219_819 : xe_P d 219 819 [l0, l1, .ref a, l3] st h Q = xe_P d 219 820 [l0, l1, .ref a, l3] (.ref a :: st) h Q := xe_P_lo (ins := .aload_n 2) (len := 1) (by decide +kernel) rfl rfl
theorem xs_219_820 : xe_P d 219 820 [.ref a, l1, l2, l3] st h Q = xe_P d 219 821 [.ref a, l1, l2, l3] (.ref a :: st) h Q := xe_P_lo (ins := .aload_n 0) (len := 1) (by decide +kernel) rfl rfl
theorem xs_219_821 : xe_P d 219 821 [l0, l1, l2, .int x] st h Q = xe_P d 219 822 [l0, l1, l2, .int x] (.int x :: st) h Q := xe_P_lo (ins := .iload_n 3) (len := 1) (by decide +kernel) rfl rfl
theorem xs_219_822 : xe_P d 219 822 ls st h Q = xe_P d 219 823 ls (.int 1 :: st) h Q := xe_P_ar (ins := .iconst 1) (len := 1) (by decide +kernel) rfl
theorem xs_219_823 : xe_P d 219 823 ls (.int v :: .int x :: st) h Q = xe_P d 219 824 ls (.int (x + v) :: st) h Q := xe_P_ar (ins := .iadd) (len := 1) (by decide +kernel) rfl
theorem xs_219_824 : xe_P d 219 824 ls (.int v :: .ref a :: st) h Q = ((xe_ia h a ∧ xe_ix h a v) ∧ xe_P d 219 825 ls (.int (xe_I h a v.toNatClampNeg) :: st) h Q) := xe_P_iald (by decide +kernel)
theorem xs_219_825 : xe_P d 219 825 [.ref a, l1, l2, l3] st h Q = xe_P d 219 826 [.ref a, l1, l2, l3] (.ref a :: st) h Q := xe_P_lo (ins := .aload_n 0) (len := 1) (by decide +kernel) rfl rfl
theorem xs_219_826 : xe_P d 219 826 [l0, l1, l2, .int x] st h Q = xe_P d 219 827 [l0, l1, l2, .int x] (.int x :: st) h Q := xe_P_lo (ins := .iload_n 3) (len := 1) (by decide +kernel) rfl rfl
theorem xs_219_827 : xe_P d 219 827 ls st h Q = xe_P d 219 828 ls (.int 2 :: st) h Q := xe_P_ar (ins := .iconst 2) (len := 1) (by decide +kernel) rfl
theorem xs_219_828 : xe_P d 219 828 ls (.int v :: .int x :: st) h Q = xe_P d 219 829 ls (.int (x + v) :: st) h Q := xe_P_ar (ins := .iadd) (len := 1) (by decide +kernel) rfl
theorem xs_219_829 : xe_P d 219 829 ls (.int v :: .ref a :: st) h Q = ((xe_ia h a ∧ xe_ix h a v) ∧ xe_P d 219 830 ls (.int (xe_I h a v.toNatClampNeg) :: st) h Q) := xe_P_iald (by decide +kernel)
theorem xs_219_830 : xe_P d 219 830 [.ref a, l1, l2, l3] st h Q = xe_P d 219 831 [.ref a, l1, l2, l3] (.ref a :: st) h Q := xe_P_lo (ins := .aload_n 0) (len := 1) (by decide +kernel) rfl rfl
theorem xs_219_831 : xe_P d 219 831 [l0, l1, l2, .int x] st h Q = xe_P d 219 832 [l0, l1, l2, .int x] (.int x :: st) h Q := xe_P_lo (ins := .iload_n 3) (len := 1) (by decide +kernel) rfl rfl
theorem xs_219_832 : xe_P d 219 832 ls st h Q = xe_P d 219 833 ls (.int 3 :: st) h Q := xe_P_ar (ins := .iconst 3) (len := 1) (by decide +kernel) rfl
theorem xs_219_833 : xe_P d 219 833 ls (.int v :: .int x :: st) h Q = xe_P d 219 834 ls (.int (x + v) :: st) h Q := xe_P_ar (ins := .iadd) (len := 1) (by decide +kernel) rfl
theorem xs_219_834 : xe_P d 219 834 ls (.int v :: .ref a :: st) h Q = ((xe_ia h a ∧ xe_ix h a v) ∧ xe_P d 219 835 ls (.int (xe_I h a v.toNatClampNeg) :: st) h Q) := xe_P_iald (by decide +kernel)
theorem xs_219_835 : xe_P d 219 835 ls (v2 :: v1 :: v0 :: .ref a :: st) h Q = ((xe_w st ≤ 8 ∧ xe_ob h a 7) ∧ xe_C d 184 [.ref a, v0, v1, v2] h (fun r h' => xe_P d 219 838 ls (r.toList ++ st) h' Q)) := xe_P_ivv (y := 219) (pc := 835) (z := 184) (i := 105) (vs := [v2, v1, v0]) (by decide +kernel) (by decide +kernel) rfl (by decide +kernel)
theorem xs_219_838 : xe_P d 219 838 ls (.long u :: .long w :: st) h Q = xe_P d 219 839 ls (.int (lg_cmp w u) :: st) h Q := xe_P_ar (ins := .lcmp) (len := 1) (by decide +kernel) rfl
theorem xs_219_839 : xe_P d 219 839 ls (.int x :: st) h Q = (if x = 0 then xe_P d 219 1216 ls st h Q else xe_P d 219 842 ls st h Q) := xe_P_if (ins := .ifCond .eq 377) (len := 3) (off := 377) (by decide +kernel) (by decide) rfl rfl rfl
theorem xs_219_842 : xe_P d 219 842 ls st h Q = xe_P d 219 843 ls (.int 0 :: st) h Q := xe_P_ar (ins := .iconst 0) (len := 1) (by decide +kernel) rfl
theorem xs_219_843 : xe_P d 219 843 ls [.int x] h Q = ((x = 0 ∨ x = 1) ∧ Q (some (.int x)) h) := xe_P_zreturn (by decide +kernel) rfl
theorem xs_219_844 : xe_P d 219 844 [l0, .ref a, l2, l3] st h Q = xe_P d 219 845 [l0, .ref a, l2, l3] (.ref a :: st) h Q := xe_P_lo (ins := .aload_n 1) (len := 1) (by decide +kernel) rfl rfl
theorem xs_219_845 : xe_P d 219 845 [.ref a, l1, l2, l3] st h Q = xe_P d 219 846 [.ref a, l1, l2, l3] (.ref a :: st) h Q := xe_P_lo (ins := .aload_n 0) (len := 1) (by decide +kernel) rfl rfl
theorem xs_219_846 : xe_P d 219 846 [l0, l1, l2, .int x] st h Q = xe_P d 219 847 [l0, l1, l2, .int x] (.int x :: st) h Q := xe_P_lo (ins := .iload_n 3) (len := 1) (by decide +kernel) rfl rfl
theorem xs_219_847 : xe_P d 219 847 ls st h Q = xe_P d 219 848 ls (.int 1 :: st) h Q := xe_P_ar (ins := .iconst 1) (len := 1) (by decide +kernel) rfl
theorem xs_219_848 : xe_P d 219 848 ls (.int v :: .int x :: st) h Q = xe_P d 219 849 ls (.int (x + v) :: st) h Q := xe_P_ar (ins := .iadd) (len := 1) (by decide +kernel) rfl
theorem xs_219_849 : xe_P d 219 849 ls (.int v :: .ref a :: st) h Q = ((xe_ia h a ∧ xe_ix h a v) ∧ xe_P d 219 850 ls (.int (xe_I h a v.toNatClampNeg) :: st) h Q) := xe_P_iald (by decide +kernel)
theorem xs_219_850 : xe_P d 219 850 [.ref a, l1, l2, l3] st h Q = xe_P d 219 851 [.ref a, l1, l2, l3] (.ref a :: st) h Q := xe_P_lo (ins := .aload_n 0) (len := 1) (by decide +kernel) rfl rfl
theorem xs_219_851 : xe_P d 219 851 [l0, l1, l2, .int x] st h Q = xe_P d 219 852 [l0, l1, l2, .int x] (.int x :: st) h Q := xe_P_lo (ins := .iload_n 3) (len := 1) (by decide +kernel) rfl rfl
theorem xs_219_852 : xe_P d 219 852 ls st h Q = xe_P d 219 853 ls (.int 2 :: st) h Q := xe_P_ar (ins := .iconst 2) (len := 1) (by decide +kernel) rfl
theorem xs_219_853 : xe_P d 219 853 ls (.int v :: .int x :: st) h Q = xe_P d 219 854 ls (.int (x + v) :: st) h Q := xe_P_ar (ins := .iadd) (len := 1) (by decide +kernel) rfl
theorem xs_219_854 : xe_P d 219 854 ls (.int v :: .ref a :: st) h Q = ((xe_ia h a ∧ xe_ix h a v) ∧ xe_P d 219 855 ls (.int (xe_I h a v.toNatClampNeg) :: st) h Q) := xe_P_iald (by decide +kernel)
theorem xs_219_855 : xe_P d 219 855 [.ref a, l1, l2, l3] st h Q = xe_P d 219 856 [.ref a, l1, l2, l3] (.ref a :: st) h Q := xe_P_lo (ins := .aload_n 0) (len := 1) (by decide +kernel) rfl rfl
theorem xs_219_856 : xe_P d 219 856 [l0, l1, l2, .int x] st h Q = xe_P d 219 857 [l0, l1, l2, .int x] (.int x :: st) h Q := xe_P_lo (ins := .iload_n 3) (len := 1) (by decide +kernel) rfl rfl
theorem xs_219_857 : xe_P d 219 857 ls st h Q = xe_P d 219 858 ls (.int 3 :: st) h Q := xe_P_ar (ins := .iconst 3) (len := 1) (by decide +kernel) rfl
theorem xs_219_858 : xe_P d 219 858 ls (.int v :: .int x :: st) h Q = xe_P d 219 859 ls (.int (x + v) :: st) h Q := xe_P_ar (ins := .iadd) (len := 1) (by decide +kernel) rfl
theorem xs_219_859 : xe_P d 219 859 ls (.int v :: .ref a :: st) h Q = ((xe_ia h a ∧ xe_ix h a v) ∧ xe_P d 219 860 ls (.int (xe_I h a v.toNatClampNeg) :: st) h Q) := xe_P_iald (by decide +kernel)
theorem xs_219_860 : xe_P d 219 860 ls (.int x :: st) h Q = (if x = 0 then xe_P d 219 867 ls st h Q else xe_P d 219 863 ls st h Q) := xe_P_if (ins := .ifCond .eq 7) (len := 3) (off := 7) (by decide +kernel) (by decide) rfl rfl rfl
theorem xs_219_863 : xe_P d 219 863 ls st h Q = xe_P d 219 864 ls (.int 1 :: st) h Q := xe_P_ar (ins := .iconst 1) (len := 1) (by decide +kernel) rfl
theorem xs_219_864 : xe_P d 219 864 ls st h Q = xe_P d 219 868 ls st h Q := xe_P_go (len := 3) (off := 4) (by decide +kernel) (by decide)
theorem xs_219_867 : xe_P d 219 867 ls st h Q = xe_P d 219 868 ls (.int 0 :: st) h Q := xe_P_ar (ins := .iconst 0) (len := 1) (by decide +kernel) rfl
theorem xs_219_868 : xe_P d 219 868 ls (v2 :: v1 :: v0 :: .ref a :: st) h Q = ((xe_w st ≤ 8 ∧ xe_ob h a 6) ∧ xe_C d 104 [.ref a, v0, v1, v2] h (fun r h' => xe_P d 219 871 ls (r.toList ++ st) h' Q)) := xe_P_ivv (y := 219) (pc := 868) (z := 104) (i := 106) (vs := [v2, v1, v0]) (by decide +kernel) (by decide +kernel) rfl (by decide +kernel)
theorem xs_219_871 : xe_P d 219 871 [l0, l1, .ref a, l3] st h Q = xe_P d 219 872 [l0, l1, .ref a, l3] (.ref a :: st) h Q := xe_P_lo (ins := .aload_n 2) (len := 1) (by decide +kernel) rfl rfl
theorem xs_219_872 : xe_P d 219 872 [.ref a, l1, l2, l3] st h Q = xe_P d 219 873 [.ref a, l1, l2, l3] (.ref a :: st) h Q := xe_P_lo (ins := .aload_n 0) (len := 1) (by decide +kernel) rfl rfl
theorem xs_219_873 : xe_P d 219 873 [l0, l1, l2, .int x] st h Q = xe_P d 219 874 [l0, l1, l2, .int x] (.int x :: st) h Q := xe_P_lo (ins := .iload_n 3) (len := 1) (by decide +kernel) rfl rfl
theorem xs_219_874 : xe_P d 219 874 ls st h Q = xe_P d 219 875 ls (.int 1 :: st) h Q := xe_P_ar (ins := .iconst 1) (len := 1) (by decide +kernel) rfl
theorem xs_219_875 : xe_P d 219 875 ls (.int v :: .int x :: st) h Q = xe_P d 219 876 ls (.int (x + v) :: st) h Q := xe_P_ar (ins := .iadd) (len := 1) (by decide +kernel) rfl
theorem xs_219_876 : xe_P d 219 876 ls (.int v :: .ref a :: st) h Q = ((xe_ia h a ∧ xe_ix h a v) ∧ xe_P d 219 877 ls (.int (xe_I h a v.toNatClampNeg) :: st) h Q) := xe_P_iald (by decide +kernel)
theorem xs_219_877 : xe_P d 219 877 [.ref a, l1, l2, l3] st h Q = xe_P d 219 878 [.ref a, l1, l2, l3] (.ref a :: st) h Q := xe_P_lo (ins := .aload_n 0) (len := 1) (by decide +kernel) rfl rfl
theorem xs_219_878 : xe_P d 219 878 [l0, l1, l2, .int x] st h Q = xe_P d 219 879 [l0, l1, l2, .int x] (.int x :: st) h Q := xe_P_lo (ins := .iload_n 3) (len := 1) (by decide +kernel) rfl rfl
theorem xs_219_879 : xe_P d 219 879 ls st h Q = xe_P d 219 880 ls (.int 2 :: st) h Q := xe_P_ar (ins := .iconst 2) (len := 1) (by decide +kernel) rfl
theorem xs_219_880 : xe_P d 219 880 ls (.int v :: .int x :: st) h Q = xe_P d 219 881 ls (.int (x + v) :: st) h Q := xe_P_ar (ins := .iadd) (len := 1) (by decide +kernel) rfl
theorem xs_219_881 : xe_P d 219 881 ls (.int v :: .ref a :: st) h Q = ((xe_ia h a ∧ xe_ix h a v) ∧ xe_P d 219 882 ls (.int (xe_I h a v.toNatClampNeg) :: st) h Q) := xe_P_iald (by decide +kernel)
theorem xs_219_882 : xe_P d 219 882 [.ref a, l1, l2, l3] st h Q = xe_P d 219 883 [.ref a, l1, l2, l3] (.ref a :: st) h Q := xe_P_lo (ins := .aload_n 0) (len := 1) (by decide +kernel) rfl rfl
theorem xs_219_883 : xe_P d 219 883 [l0, l1, l2, .int x] st h Q = xe_P d 219 884 [l0, l1, l2, .int x] (.int x :: st) h Q := xe_P_lo (ins := .iload_n 3) (len := 1) (by decide +kernel) rfl rfl
theorem xs_219_884 : xe_P d 219 884 ls st h Q = xe_P d 219 885 ls (.int 3 :: st) h Q := xe_P_ar (ins := .iconst 3) (len := 1) (by decide +kernel) rfl
theorem xs_219_885 : xe_P d 219 885 ls (.int v :: .int x :: st) h Q = xe_P d 219 886 ls (.int (x + v) :: st) h Q := xe_P_ar (ins := .iadd) (len := 1) (by decide +kernel) rfl
theorem xs_219_886 : xe_P d 219 886 ls (.int v :: .ref a :: st) h Q = ((xe_ia h a ∧ xe_ix h a v) ∧ xe_P d 219 887 ls (.int (xe_I h a v.toNatClampNeg) :: st) h Q) := xe_P_iald (by decide +kernel)
theorem xs_219_887 : xe_P d 219 887 ls (.int x :: st) h Q = (if x = 0 then xe_P d 219 894 ls st h Q else xe_P d 219 890 ls st h Q) := xe_P_if (ins := .ifCond .eq 7) (len := 3) (off := 7) (by decide +kernel) (by decide) rfl rfl rfl
theorem xs_219_890 : xe_P d 219 890 ls st h Q = xe_P d 219 891 ls (.int 1 :: st) h Q := xe_P_ar (ins := .iconst 1) (len := 1) (by decide +kernel) rfl
theorem xs_219_891 : xe_P d 219 891 ls st h Q = xe_P d 219 895 ls st h Q := xe_P_go (len := 3) (off := 4) (by decide +kernel) (by decide)
theorem xs_219_894 : xe_P d 219 894 ls st h Q = xe_P d 219 895 ls (.int 0 :: st) h Q := xe_P_ar (ins := .iconst 0) (len := 1) (by decide +kernel) rfl
theorem xs_219_895 : xe_P d 219 895 ls (v2 :: v1 :: v0 :: .ref a :: st) h Q = ((xe_w st ≤ 8 ∧ xe_ob h a 7) ∧ xe_C d 185 [.ref a, v0, v1, v2] h (fun r h' => xe_P d 219 898 ls (r.toList ++ st) h' Q)) := xe_P_ivv (y := 219) (pc := 895) (z := 185) (i := 110) (vs := [v2, v1, v0]) (by decide +kernel) (by decide +kernel) rfl (by decide +kernel)
theorem xs_219_898 : xe_P d 219 898 ls (.int v :: .int x :: st) h Q = (if x = v then xe_P d 219 1216 ls st h Q else xe_P d 219 901 ls st h Q) := xe_P_if (ins := .if_icmp .eq 318) (len := 3) (off := 318) (by decide +kernel) (by decide) rfl rfl rfl
theorem xs_219_901 : xe_P d 219 901 ls st h Q = xe_P d 219 902 ls (.int 0 :: st) h Q := xe_P_ar (ins := .iconst 0) (len := 1) (by decide +kernel) rfl
theorem xs_219_902 : xe_P d 219 902 ls [.int x] h Q = ((x = 0 ∨ x = 1) ∧ Q (some (.int x)) h) := xe_P_zreturn (by decide +kernel) rfl
theorem xs_219_903 : xe_P d 219 903 [l0, .ref a, l2, l3] st h Q = xe_P d 219 904 [l0, .ref a, l2, l3] (.ref a :: st) h Q := xe_P_lo (ins := .aload_n 1) (len := 1) (by decide +kernel) rfl rfl
theorem xs_219_904 : xe_P d 219 904 [.ref a, l1, l2, l3] st h Q = xe_P d 219 905 [.ref a, l1, l2, l3] (.ref a :: st) h Q := xe_P_lo (ins := .aload_n 0) (len := 1) (by decide +kernel) rfl rfl
theorem xs_219_905 : xe_P d 219 905 [l0, l1, l2, .int x] st h Q = xe_P d 219 906 [l0, l1, l2, .int x] (.int x :: st) h Q := xe_P_lo (ins := .iload_n 3) (len := 1) (by decide +kernel) rfl rfl
theorem xs_219_906 : xe_P d 219 906 ls st h Q = xe_P d 219 907 ls (.int 1 :: st) h Q := xe_P_ar (ins := .iconst 1) (len := 1) (by decide +kernel) rfl
theorem xs_219_907 : xe_P d 219 907 ls (.int v :: .int x :: st) h Q = xe_P d 219 908 ls (.int (x + v) :: st) h Q := xe_P_ar (ins := .iadd) (len := 1) (by decide +kernel) rfl
theorem xs_219_908 : xe_P d 219 908 ls (.int v :: .ref a :: st) h Q = ((xe_ia h a ∧ xe_ix h a v) ∧ xe_P d 219 909 ls (.int (xe_I h a v.toNatClampNeg) :: st) h Q) := xe_P_iald (by decide +kernel)
theorem xs_219_909 : xe_P d 219 909 ls (v0 :: .ref a :: st) h Q = ((xe_w st ≤ 8 ∧ xe_ob h a 6) ∧ xe_C d 105 [.ref a, v0] h (fun r h' => xe_P d 219 912 ls (r.toList ++ st) h' Q)) := xe_P_ivv (y := 219) (pc := 909) (z := 105) (i := 111) (vs := [v0]) (by decide +kernel) (by decide +kernel) rfl (by decide +kernel)
theorem xs_219_912 : xe_P d 219 912 [l0, l1, .ref a, l3] st h Q = xe_P d 219 913 [l0, l1, .ref a, l3] (.ref a :: st) h Q := xe_P_lo (ins := .aload_n 2) (len := 1) (by decide +kernel) rfl rfl
theorem xs_219_913 : xe_P d 219 913 [.ref a, l1, l2, l3] st h Q = xe_P d 219 914 [.ref a, l1, l2, l3] (.ref a :: st) h Q := xe_P_lo (ins := .aload_n 0) (len := 1) (by decide +kernel) rfl rfl
theorem xs_219_914 : xe_P d 219 914 [l0, l1, l2, .int x] st h Q = xe_P d 219 915 [l0, l1, l2, .int x] (.int x :: st) h Q := xe_P_lo (ins := .iload_n 3) (len := 1) (by decide +kernel) rfl rfl
theorem xs_219_915 : xe_P d 219 915 ls st h Q = xe_P d 219 916 ls (.int 1 :: st) h Q := xe_P_ar (ins := .iconst 1) (len := 1) (by decide +kernel) rfl
theorem xs_219_916 : xe_P d 219 916 ls (.int v :: .int x :: st) h Q = xe_P d 219 917 ls (.int (x + v) :: st) h Q := xe_P_ar (ins := .iadd) (len := 1) (by decide +kernel) rfl
theorem xs_219_917 : xe_P d 219 917 ls (.int v :: .ref a :: st) h Q = ((xe_ia h a ∧ xe_ix h a v) ∧ xe_P d 219 918 ls (.int (xe_I h a v.toNatClampNeg) :: st) h Q) := xe_P_iald (by decide +kernel)
theorem xs_219_918 : xe_P d 219 918 ls (v0 :: .ref a :: st) h Q = ((xe_w st ≤ 8 ∧ xe_ob h a 7) ∧ xe_C d 186 [.ref a, v0] h (fun r h' => xe_P d 219 921 ls (r.toList ++ st) h' Q)) := xe_P_ivv (y := 219) (pc := 918) (z := 186) (i := 114) (vs := [v0]) (by decide +kernel) (by decide +kernel) rfl (by decide +kernel)
theorem xs_219_921 : xe_P d 219 921 ls (.int v :: .int x :: st) h Q = (if x = v then xe_P d 219 1216 ls st h Q else xe_P d 219 924 ls st h Q) := xe_P_if (ins := .if_icmp .eq 295) (len := 3) (off := 295) (by decide +kernel) (by decide) rfl rfl rfl
theorem xs_219_924 : xe_P d 219 924 ls st h Q = xe_P d 219 925 ls (.int 0 :: st) h Q := xe_P_ar (ins := .iconst 0) (len := 1) (by decide +kernel) rfl
theorem xs_219_925 : xe_P d 219 925 ls [.int x] h Q = ((x = 0 ∨ x = 1) ∧ Q (some (.int x)) h) := xe_P_zreturn (by decide +kernel) rfl
theorem xs_219_926 : xe_P d 219 926 [l0, .ref a, l2, l3] st h Q = xe_P d 219 927 [l0, .ref a, l2, l3] (.ref a :: st) h Q := xe_P_lo (ins := .aload_n 1) (len := 1) (by decide +kernel) rfl rfl
theorem xs_219_927 : xe_P d 219 927 [.ref a, l1, l2, l3] st h Q = xe_P d 219 928 [.ref a, l1, l2, l3] (.ref a :: st) h Q := xe_P_lo (ins := .aload_n 0) (len := 1) (by decide +kernel) rfl rfl
theorem xs_219_928 : xe_P d 219 928 [l0, l1, l2, .int x] st h Q = xe_P d 219 929 [l0, l1, l2, .int x] (.int x :: st) h Q := xe_P_lo (ins := .iload_n 3) (len := 1) (by decide +kernel) rfl rfl
theorem xs_219_929 : xe_P d 219 929 ls st h Q = xe_P d 219 930 ls (.int 1 :: st) h Q := xe_P_ar (ins := .iconst 1) (len := 1) (by decide +kernel) rfl
theorem xs_219_930 : xe_P d 219 930 ls (.int v :: .int x :: st) h Q = xe_P d 219 931 ls (.int (x + v) :: st) h Q := xe_P_ar (ins := .iadd) (len := 1) (by decide +kernel) rfl
theorem xs_219_931 : xe_P d 219 931 ls (.int v :: .ref a :: st) h Q = ((xe_ia h a ∧ xe_ix h a v) ∧ xe_P d 219 932 ls (.int (xe_I h a v.toNatClampNeg) :: st) h Q) := xe_P_iald (by decide +kernel)
theorem xs_219_932 : xe_P d 219 932 ls (v0 :: .ref a :: st) h Q = ((xe_w st ≤ 8 ∧ xe_ob h a 6) ∧ xe_C d 106 [.ref a, v0] h (fun r h' => xe_P d 219 935 ls (r.toList ++ st) h' Q)) := xe_P_ivv (y := 219) (pc := 932) (z := 106) (i := 115) (vs := [v0]) (by decide +kernel) (by decide +kernel) rfl (by decide +kernel)
theorem xs_219_935 : xe_P d 219 935 [l0, l1, .ref a, l3] st h Q = xe_P d 219 936 [l0, l1, .ref a, l3] (.ref a :: st) h Q := xe_P_lo (ins := .aload_n 2) (len := 1) (by decide +kernel) rfl rfl
theorem xs_219_936 : xe_P d 219 936 [.ref a, l1, l2, l3] st h Q = xe_P d 219 937 [.ref a, l1, l2, l3] (.ref a :: st) h Q := xe_P_lo (ins := .aload_n 0) (len := 1) (by decide +kernel) rfl rfl
theorem xs_219_937 : xe_P d 219 937 [l0, l1, l2, .int x] st h Q = xe_P d 219 938 [l0, l1, l2, .int x] (.int x :: st) h Q := xe_P_lo (ins := .iload_n 3) (len := 1) (by decide +kernel) rfl rfl
theorem xs_219_938 : xe_P d 219 938 ls st h Q = xe_P d 219 939 ls (.int 1 :: st) h Q := xe_P_ar (ins := .iconst 1) (len := 1) (by decide +kernel) rfl
theorem xs_219_939 : xe_P d 219 939 ls (.int v :: .int x :: st) h Q = xe_P d 219 940 ls (.int (x + v) :: st) h Q := xe_P_ar (ins := .iadd) (len := 1) (by decide +kernel) rfl
theorem xs_219_940 : xe_P d 219 940 ls (.int v :: .ref a :: st) h Q = ((xe_ia h a ∧ xe_ix h a v) ∧ xe_P d 219 941 ls (.int (xe_I h a v.toNatClampNeg) :: st) h Q) := xe_P_iald (by decide +kernel)
theorem xs_219_941 : xe_P d 219 941 ls (v0 :: .ref a :: st) h Q = ((xe_w st ≤ 8 ∧ xe_ob h a 7) ∧ xe_C d 191 [.ref a, v0] h (fun r h' => xe_P d 219 944 ls (r.toList ++ st) h' Q)) := xe_P_ivv (y := 219) (pc := 941) (z := 191) (i := 118) (vs := [v0]) (by decide +kernel) (by decide +kernel) rfl (by decide +kernel)
theorem xs_219_944 : xe_P d 219 944 ls (.int v :: .int x :: st) h Q = (if x = v then xe_P d 219 1216 ls st h Q else xe_P d 219 947 ls st h Q) := xe_P_if (ins := .if_icmp .eq 272) (len := 3) (off := 272) (by decide +kernel) (by decide) rfl rfl rfl
theorem xs_219_947 : xe_P d 219 947 ls st h Q = xe_P d 219 948 ls (.int 0 :: st) h Q := xe_P_ar (ins := .iconst 0) (len := 1) (by decide +kernel) rfl
theorem xs_219_948 : xe_P d 219 948 ls [.int x] h Q = ((x = 0 ∨ x = 1) ∧ Q (some (.int x)) h) := xe_P_zreturn (by decide +kernel) rfl
theorem xs_219_949 : xe_P d 219 949 [l0, .ref a, l2, l3] st h Q = xe_P d 219 950 [l0, .ref a, l2, l3] (.ref a :: st) h Q := xe_P_lo (ins := .aload_n 1) (len := 1) (by decide +kernel) rfl rfl
theorem xs_219_950 : xe_P d 219 950 [.ref a, l1, l2, l3] st h Q = xe_P d 219 951 [.ref a, l1, l2, l3] (.ref a :: st) h Q := xe_P_lo (ins := .aload_n 0) (len := 1) (by decide +kernel) rfl rfl
theorem xs_219_951 : xe_P d 219 951 [l0, l1, l2, .int x] st h Q = xe_P d 219 952 [l0, l1, l2, .int x] (.int x :: st) h Q := xe_P_lo (ins := .iload_n 3) (len := 1) (by decide +kernel) rfl rfl
theorem xs_219_952 : xe_P d 219 952 ls st h Q = xe_P d 219 953 ls (.int 1 :: st) h Q := xe_P_ar (ins := .iconst 1) (len := 1) (by decide +kernel) rfl
theorem xs_219_953 : xe_P d 219 953 ls (.int v :: .int x :: st) h Q = xe_P d 219 954 ls (.int (x + v) :: st) h Q := xe_P_ar (ins := .iadd) (len := 1) (by decide +kernel) rfl
theorem xs_219_954 : xe_P d 219 954 ls (.int v :: .ref a :: st) h Q = ((xe_ia h a ∧ xe_ix h a v) ∧ xe_P d 219 955 ls (.int (xe_I h a v.toNatClampNeg) :: st) h Q) := xe_P_iald (by decide +kernel)
theorem xs_219_955 : xe_P d 219 955 ls (v0 :: .ref a :: st) h Q = ((xe_w st ≤ 8 ∧ xe_ob h a 6) ∧ xe_C d 107 [.ref a, v0] h (fun r h' => xe_P d 219 958 ls (r.toList ++ st) h' Q)) := xe_P_ivv (y := 219) (pc := 955) (z := 107) (i := 119) (vs := [v0]) (by decide +kernel) (by decide +kernel) rfl (by decide +kernel)
theorem xs_219_958 : xe_P d 219 958 [l0, l1, .ref a, l3] st h Q = xe_P d 219 959 [l0, l1, .ref a, l3] (.ref a :: st) h Q := xe_P_lo (ins := .aload_n 2) (len := 1) (by decide +kernel) rfl rfl
theorem xs_219_959 : xe_P d 219 959 [.ref a, l1, l2, l3] st h Q = xe_P d 219 960 [.ref a, l1, l2, l3] (.ref a :: st) h Q := xe_P_lo (ins := .aload_n 0) (len := 1) (by decide +kernel) rfl rfl
theorem xs_219_960 : xe_P d 219 960 [l0, l1, l2, .int x] st h Q = xe_P d 219 961 [l0, l1, l2, .int x] (.int x :: st) h Q := xe_P_lo (ins := .iload_n 3) (len := 1) (by decide +kernel) rfl rfl
theorem xs_219_961 : xe_P d 219 961 ls st h Q = xe_P d 219 962 ls (.int 1 :: st) h Q := xe_P_ar (ins := .iconst 1) (len := 1) (by decide +kernel) rfl
theorem xs_219_962 : xe_P d 219 962 ls (.int v :: .int x :: st) h Q = xe_P d 219 963 ls (.int (x + v) :: st) h Q := xe_P_ar (ins := .iadd) (len := 1) (by decide +kernel) rfl
theorem xs_219_963 : xe_P d 219 963 ls (.int v :: .ref a :: st) h Q = ((xe_ia h a ∧ xe_ix h a v) ∧ xe_P d 219 964 ls (.int (xe_I h a v.toNatClampNeg) :: st) h Q) := xe_P_iald (by decide +kernel)
theorem xs_219_964 : xe_P d 219 964 ls (v0 :: .ref a :: st) h Q = ((xe_w st ≤ 8 ∧ xe_ob h a 7) ∧ xe_C d 192 [.ref a, v0] h (fun r h' => xe_P d 219 967 ls (r.toList ++ st) h' Q)) := xe_P_ivv (y := 219) (pc := 964) (z := 192) (i := 122) (vs := [v0]) (by decide +kernel) (by decide +kernel) rfl (by decide +kernel)
theorem xs_219_967 : xe_P d 219 967 ls (.int v :: .int x :: st) h Q = (if x = v then xe_P d 219 1216 ls st h Q else xe_P d 219 970 ls st h Q) := xe_P_if (ins := .if_icmp .eq 249) (len := 3) (off := 249) (by decide +kernel) (by decide) rfl rfl rfl
theorem xs_219_970 : xe_P d 219 970 ls st h Q = xe_P d 219 971 ls (.int 0 :: st) h Q := xe_P_ar (ins := .iconst 0) (len := 1) (by decide +kernel) rfl
theorem xs_219_971 : xe_P d 219 971 ls [.int x] h Q = ((x = 0 ∨ x = 1) ∧ Q (some (.int x)) h) := xe_P_zreturn (by decide +kernel) rfl
theorem xs_219_972 : xe_P d 219 972 [l0, .ref a, l2, l3] st h Q = xe_P d 219 973 [l0, .ref a, l2, l3] (.ref a :: st) h Q := xe_P_lo (ins := .aload_n 1) (len := 1) (by decide +kernel) rfl rfl
theorem xs_219_973 : xe_P d 219 973 [.ref a, l1, l2, l3] st h Q = xe_P d 219 974 [.ref a, l1, l2, l3] (.ref a :: st) h Q := xe_P_lo (ins := .aload_n 0) (len := 1) (by decide +kernel) rfl rfl
theorem xs_219_974 : xe_P d 219 974 [l0, l1, l2, .int x] st h Q = xe_P d 219 975 [l0, l1, l2, .int x] (.int x :: st) h Q := xe_P_lo (ins := .iload_n 3) (len := 1) (by decide +kernel) rfl rfl
theorem xs_219_975 : xe_P d 219 975 ls st h Q = xe_P d 219 976 ls (.int 1 :: st) h Q := xe_P_ar (ins := .iconst 1) (len := 1) (by decide +kernel) rfl
theorem xs_219_976 : xe_P d 219 976 ls (.int v :: .int x :: st) h Q = xe_P d 219 977 ls (.int (x + v) :: st) h Q := xe_P_ar (ins := .iadd) (len := 1) (by decide +kernel) rfl
theorem xs_219_977 : xe_P d 219 977 ls (.int v :: .ref a :: st) h Q = ((xe_ia h a ∧ xe_ix h a v) ∧ xe_P d 219 978 ls (.int (xe_I h a v.toNatClampNeg) :: st) h Q) := xe_P_iald (by decide +kernel)
theorem xs_219_978 : xe_P d 219 978 ls (v0 :: .ref a :: st) h Q = ((xe_w st ≤ 8 ∧ xe_ob h a 6) ∧ xe_C d 108 [.ref a, v0] h (fun r h' => xe_P d 219 981 ls (r.toList ++ st) h' Q)) := xe_P_ivv (y := 219) (pc := 978) (z := 108) (i := 123) (vs := [v0]) (by decide +kernel) (by decide +kernel) rfl (by decide +kernel)
theorem xs_219_981 : xe_P d 219 981 [l0, l1, .ref a, l3] st h Q = xe_P d 219 982 [l0, l1, .ref a, l3] (.ref a :: st) h Q := xe_P_lo (ins := .aload_n 2) (len := 1) (by decide +kernel) rfl rfl
theorem xs_219_982 : xe_P d 219 982 [.ref a, l1, l2, l3] st h Q = xe_P d 219 983 [.ref a, l1, l2, l3] (.ref a :: st) h Q := xe_P_lo (ins := .aload_n 0) (len := 1) (by decide +kernel) rfl rfl
theorem xs_219_983 : xe_P d 219 983 [l0, l1, l2, .int x] st h Q = xe_P d 219 984 [l0, l1, l2, .int x] (.int x :: st) h Q := xe_P_lo (ins := .iload_n 3) (len := 1) (by decide +kernel) rfl rfl
theorem xs_219_984 : xe_P d 219 984 ls st h Q = xe_P d 219 985 ls (.int 1 :: st) h Q := xe_P_ar (ins := .iconst 1) (len := 1) (by decide +kernel) rfl
theorem xs_219_985 : xe_P d 219 985 ls (.int v :: .int x :: st) h Q = xe_P d 219 986 ls (.int (x + v) :: st) h Q := xe_P_ar (ins := .iadd) (len := 1) (by decide +kernel) rfl
theorem xs_219_986 : xe_P d 219 986 ls (.int v :: .ref a :: st) h Q = ((xe_ia h a ∧ xe_ix h a v) ∧ xe_P d 219 987 ls (.int (xe_I h a v.toNatClampNeg) :: st) h Q) := xe_P_iald (by decide +kernel)
theorem xs_219_987 : xe_P d 219 987 ls (v0 :: .ref a :: st) h Q = ((xe_w st ≤ 8 ∧ xe_ob h a 7) ∧ xe_C d 194 [.ref a, v0] h (fun r h' => xe_P d 219 990 ls (r.toList ++ st) h' Q)) := xe_P_ivv (y := 219) (pc := 987) (z := 194) (i := 126) (vs := [v0]) (by decide +kernel) (by decide +kernel) rfl (by decide +kernel)
theorem xs_219_990 : xe_P d 219 990 ls (.int v :: .int x :: st) h Q = (if x = v then xe_P d 219 1216 ls st h Q else xe_P d 219 993 ls st h Q) := xe_P_if (ins := .if_icmp .eq 226) (len := 3) (off := 226) (by decide +kernel) (by decide) rfl rfl rfl
theorem xs_219_993 : xe_P d 219 993 ls st h Q = xe_P d 219 994 ls (.int 0 :: st) h Q := xe_P_ar (ins := .iconst 0) (len := 1) (by decide +kernel) rfl
theorem xs_219_994 : xe_P d 219 994 ls [.int x] h Q = ((x = 0 ∨ x = 1) ∧ Q (some (.int x)) h) := xe_P_zreturn (by decide +kernel) rfl
theorem xs_219_995 : xe_P d 219 995 [l0, .ref a, l2, l3] st h Q = xe_P d 219 996 [l0, .ref a, l2, l3] (.ref a :: st) h Q := xe_P_lo (ins := .aload_n 1) (len := 1) (by decide +kernel) rfl rfl
theorem xs_219_996 : xe_P d 219 996 [.ref a, l1, l2, l3] st h Q = xe_P d 219 997 [.ref a, l1, l2, l3] (.ref a :: st) h Q := xe_P_lo (ins := .aload_n 0) (len := 1) (by decide +kernel) rfl rfl
theorem xs_219_997 : xe_P d 219 997 [l0, l1, l2, .int x] st h Q = xe_P d 219 998 [l0, l1, l2, .int x] (.int x :: st) h Q := xe_P_lo (ins := .iload_n 3) (len := 1) (by decide +kernel) rfl rfl
theorem xs_219_998 : xe_P d 219 998 ls st h Q = xe_P d 219 999 ls (.int 1 :: st) h Q := xe_P_ar (ins := .iconst 1) (len := 1) (by decide +kernel) rfl
theorem xs_219_999 : xe_P d 219 999 ls (.int v :: .int x :: st) h Q = xe_P d 219 1000 ls (.int (x + v) :: st) h Q := xe_P_ar (ins := .iadd) (len := 1) (by decide +kernel) rfl
theorem xs_219_1000 : xe_P d 219 1000 ls (.int v :: .ref a :: st) h Q = ((xe_ia h a ∧ xe_ix h a v) ∧ xe_P d 219 1001 ls (.int (xe_I h a v.toNatClampNeg) :: st) h Q) := xe_P_iald (by decide +kernel)
theorem xs_219_1001 : xe_P d 219 1001 ls (v0 :: .ref a :: st) h Q = ((xe_w st ≤ 8 ∧ xe_ob h a 6) ∧ xe_C d 109 [.ref a, v0] h (fun r h' => xe_P d 219 1004 ls (r.toList ++ st) h' Q)) := xe_P_ivv (y := 219) (pc := 1001) (z := 109) (i := 127) (vs := [v0]) (by decide +kernel) (by decide +kernel) rfl (by decide +kernel)
theorem xs_219_1004 : xe_P d 219 1004 [l0, l1, .ref a, l3] st h Q = xe_P d 219 1005 [l0, l1, .ref a, l3] (.ref a :: st) h Q := xe_P_lo (ins := .aload_n 2) (len := 1) (by decide +kernel) rfl rfl
theorem xs_219_1005 : xe_P d 219 1005 [.ref a, l1, l2, l3] st h Q = xe_P d 219 1006 [.ref a, l1, l2, l3] (.ref a :: st) h Q := xe_P_lo (ins := .aload_n 0) (len := 1) (by decide +kernel) rfl rfl
theorem xs_219_1006 : xe_P d 219 1006 [l0, l1, l2, .int x] st h Q = xe_P d 219 1007 [l0, l1, l2, .int x] (.int x :: st) h Q := xe_P_lo (ins := .iload_n 3) (len := 1) (by decide +kernel) rfl rfl
theorem xs_219_1007 : xe_P d 219 1007 ls st h Q = xe_P d 219 1008 ls (.int 1 :: st) h Q := xe_P_ar (ins := .iconst 1) (len := 1) (by decide +kernel) rfl
theorem xs_219_1008 : xe_P d 219 1008 ls (.int v :: .int x :: st) h Q = xe_P d 219 1009 ls (.int (x + v) :: st) h Q := xe_P_ar (ins := .iadd) (len := 1) (by decide +kernel) rfl
theorem xs_219_1009 : xe_P d 219 1009 ls (.int v :: .ref a :: st) h Q = ((xe_ia h a ∧ xe_ix h a v) ∧ xe_P d 219 1010 ls (.int (xe_I h a v.toNatClampNeg) :: st) h Q) := xe_P_iald (by decide +kernel)
theorem xs_219_1010 : xe_P d 219 1010 ls (v0 :: .ref a :: st) h Q = ((xe_w st ≤ 8 ∧ xe_ob h a 7) ∧ xe_C d 196 [.ref a, v0] h (fun r h' => xe_P d 219 1013 ls (r.toList ++ st) h' Q)) := xe_P_ivv (y := 219) (pc := 1010) (z := 196) (i := 130) (vs := [v0]) (by decide +kernel) (by decide +kernel) rfl (by decide +kernel)
theorem xs_219_1013 : xe_P d 219 1013 ls (.int v :: .int x :: st) h Q = (if x = v then xe_P d 219 1216 ls st h Q else xe_P d 219 1016 ls st h Q) := xe_P_if (ins := .if_icmp .eq 203) (len := 3) (off := 203) (by decide +kernel) (by decide) rfl rfl rfl
theorem xs_219_1016 : xe_P d 219 1016 ls st h Q = xe_P d 219 1017 ls (.int 0 :: st) h Q := xe_P_ar (ins := .iconst 0) (len := 1) (by decide +kernel) rfl
theorem xs_219_1017 : xe_P d 219 1017 ls [.int x] h Q = ((x = 0 ∨ x = 1) ∧ Q (some (.int x)) h) := xe_P_zreturn (by decide +kernel) rfl
theorem xs_219_1018 : xe_P d 219 1018 [l0, .ref a, l2, l3] st h Q = xe_P d 219 1019 [l0, .ref a, l2, l3] (.ref a :: st) h Q := xe_P_lo (ins := .aload_n 1) (len := 1) (by decide +kernel) rfl rfl
theorem xs_219_1019 : xe_P d 219 1019 [.ref a, l1, l2, l3] st h Q = xe_P d 219 1020 [.ref a, l1, l2, l3] (.ref a :: st) h Q := xe_P_lo (ins := .aload_n 0) (len := 1) (by decide +kernel) rfl rfl
theorem xs_219_1020 : xe_P d 219 1020 [l0, l1, l2, .int x] st h Q = xe_P d 219 1021 [l0, l1, l2, .int x] (.int x :: st) h Q := xe_P_lo (ins := .iload_n 3) (len := 1) (by decide +kernel) rfl rfl
theorem xs_219_1021 : xe_P d 219 1021 ls st h Q = xe_P d 219 1022 ls (.int 1 :: st) h Q := xe_P_ar (ins := .iconst 1) (len := 1) (by decide +kernel) rfl
theorem xs_219_1022 : xe_P d 219 1022 ls (.int v :: .int x :: st) h Q = xe_P d 219 1023 ls (.int (x + v) :: st) h Q := xe_P_ar (ins := .iadd) (len := 1) (by decide +kernel) rfl
theorem xs_219_1023 : xe_P d 219 1023 ls (.int v :: .ref a :: st) h Q = ((xe_ia h a ∧ xe_ix h a v) ∧ xe_P d 219 1024 ls (.int (xe_I h a v.toNatClampNeg) :: st) h Q) := xe_P_iald (by decide +kernel)
theorem xs_219_1024 : xe_P d 219 1024 ls (v0 :: .ref a :: st) h Q = ((xe_w st ≤ 8 ∧ xe_ob h a 6) ∧ xe_C d 110 [.ref a, v0] h (fun r h' => xe_P d 219 1027 ls (r.toList ++ st) h' Q)) := xe_P_ivv (y := 219) (pc := 1024) (z := 110) (i := 131) (vs := [v0]) (by decide +kernel) (by decide +kernel) rfl (by decide +kernel)
theorem xs_219_1027 : xe_P d 219 1027 [l0, l1, .ref a, l3] st h Q = xe_P d 219 1028 [l0, l1, .ref a, l3] (.ref a :: st) h Q := xe_P_lo (ins := .aload_n 2) (len := 1) (by decide +kernel) rfl rfl
theorem xs_219_1028 : xe_P d 219 1028 [.ref a, l1, l2, l3] st h Q = xe_P d 219 1029 [.ref a, l1, l2, l3] (.ref a :: st) h Q := xe_P_lo (ins := .aload_n 0) (len := 1) (by decide +kernel) rfl rfl
theorem xs_219_1029 : xe_P d 219 1029 [l0, l1, l2, .int x] st h Q = xe_P d 219 1030 [l0, l1, l2, .int x] (.int x :: st) h Q := xe_P_lo (ins := .iload_n 3) (len := 1) (by decide +kernel) rfl rfl
theorem xs_219_1030 : xe_P d 219 1030 ls st h Q = xe_P d 219 1031 ls (.int 1 :: st) h Q := xe_P_ar (ins := .iconst 1) (len := 1) (by decide +kernel) rfl
theorem xs_219_1031 : xe_P d 219 1031 ls (.int v :: .int x :: st) h Q = xe_P d 219 1032 ls (.int (x + v) :: st) h Q := xe_P_ar (ins := .iadd) (len := 1) (by decide +kernel) rfl
theorem xs_219_1032 : xe_P d 219 1032 ls (.int v :: .ref a :: st) h Q = ((xe_ia h a ∧ xe_ix h a v) ∧ xe_P d 219 1033 ls (.int (xe_I h a v.toNatClampNeg) :: st) h Q) := xe_P_iald (by decide +kernel)
theorem xs_219_1033 : xe_P d 219 1033 ls (v0 :: .ref a :: st) h Q = ((xe_w st ≤ 8 ∧ xe_ob h a 7) ∧ xe_C d 197 [.ref a, v0] h (fun r h' => xe_P d 219 1036 ls (r.toList ++ st) h' Q)) := xe_P_ivv (y := 219) (pc := 1033) (z := 197) (i := 134) (vs := [v0]) (by decide +kernel) (by decide +kernel) rfl (by decide +kernel)
theorem xs_219_1036 : xe_P d 219 1036 ls (.int v :: .int x :: st) h Q = (if x = v then xe_P d 219 1216 ls st h Q else xe_P d 219 1039 ls st h Q) := xe_P_if (ins := .if_icmp .eq 180) (len := 3) (off := 180) (by decide +kernel) (by decide) rfl rfl rfl
theorem xs_219_1039 : xe_P d 219 1039 ls st h Q = xe_P d 219 1040 ls (.int 0 :: st) h Q := xe_P_ar (ins := .iconst 0) (len := 1) (by decide +kernel) rfl
theorem xs_219_1040 : xe_P d 219 1040 ls [.int x] h Q = ((x = 0 ∨ x = 1) ∧ Q (some (.int x)) h) := xe_P_zreturn (by decide +kernel) rfl
theorem xs_219_1041 : xe_P d 219 1041 [l0, .ref a, l2, l3] st h Q = xe_P d 219 1042 [l0, .ref a, l2, l3] (.ref a :: st) h Q := xe_P_lo (ins := .aload_n 1) (len := 1) (by decide +kernel) rfl rfl
theorem xs_219_1042 : xe_P d 219 1042 [.ref a, l1, l2, l3] st h Q = xe_P d 219 1043 [.ref a, l1, l2, l3] (.ref a :: st) h Q := xe_P_lo (ins := .aload_n 0) (len := 1) (by decide +kernel) rfl rfl
theorem xs_219_1043 : xe_P d 219 1043 [l0, l1, l2, .int x] st h Q = xe_P d 219 1044 [l0, l1, l2, .int x] (.int x :: st) h Q := xe_P_lo (ins := .iload_n 3) (len := 1) (by decide +kernel) rfl rfl
theorem xs_219_1044 : xe_P d 219 1044 ls st h Q = xe_P d 219 1045 ls (.int 1 :: st) h Q := xe_P_ar (ins := .iconst 1) (len := 1) (by decide +kernel) rfl
theorem xs_219_1045 : xe_P d 219 1045 ls (.int v :: .int x :: st) h Q = xe_P d 219 1046 ls (.int (x + v) :: st) h Q := xe_P_ar (ins := .iadd) (len := 1) (by decide +kernel) rfl
theorem xs_219_1046 : xe_P d 219 1046 ls (.int v :: .ref a :: st) h Q = ((xe_ia h a ∧ xe_ix h a v) ∧ xe_P d 219 1047 ls (.int (xe_I h a v.toNatClampNeg) :: st) h Q) := xe_P_iald (by decide +kernel)
theorem xs_219_1047 : xe_P d 219 1047 [.ref a, l1, l2, l3] st h Q = xe_P d 219 1048 [.ref a, l1, l2, l3] (.ref a :: st) h Q := xe_P_lo (ins := .aload_n 0) (len := 1) (by decide +kernel) rfl rfl
theorem xs_219_1048 : xe_P d 219 1048 [l0, l1, l2, .int x] st h Q = xe_P d 219 1049 [l0, l1, l2, .int x] (.int x :: st) h Q := xe_P_lo (ins := .iload_n 3) (len := 1) (by decide +kernel) rfl rfl
theorem xs_219_1049 : xe_P d 219 1049 ls st h Q = xe_P d 219 1050 ls (.int 2 :: st) h Q := xe_P_ar (ins := .iconst 2) (len := 1) (by decide +kernel) rfl
theorem xs_219_1050 : xe_P d 219 1050 ls (.int v :: .int x :: st) h Q = xe_P d 219 1051 ls (.int (x + v) :: st) h Q := xe_P_ar (ins := .iadd) (len := 1) (by decide +kernel) rfl
theorem xs_219_1051 : xe_P d 219 1051 ls (.int v :: .ref a :: st) h Q = ((xe_ia h a ∧ xe_ix h a v) ∧ xe_P d 219 1052 ls (.int (xe_I h a v.toNatClampNeg) :: st) h Q) := xe_P_iald (by decide +kernel)
theorem xs_219_1052 : xe_P d 219 1052 [.ref a, l1, l2, l3] st h Q = xe_P d 219 1053 [.ref a, l1, l2, l3] (.ref a :: st) h Q := xe_P_lo (ins := .aload_n 0) (len := 1) (by decide +kernel) rfl rfl
theorem xs_219_1053 : xe_P d 219 1053 [l0, l1, l2, .int x] st h Q = xe_P d 219 1054 [l0, l1, l2, .int x] (.int x :: st) h Q := xe_P_lo (ins := .iload_n 3) (len := 1) (by decide +kernel) rfl rfl
theorem xs_219_1054 : xe_P d 219 1054 ls st h Q = xe_P d 219 1055 ls (.int 3 :: st) h Q := xe_P_ar (ins := .iconst 3) (len := 1) (by decide +kernel) rfl
theorem xs_219_1055 : xe_P d 219 1055 ls (.int v :: .int x :: st) h Q = xe_P d 219 1056 ls (.int (x + v) :: st) h Q := xe_P_ar (ins := .iadd) (len := 1) (by decide +kernel) rfl
theorem xs_219_1056 : xe_P d 219 1056 ls (.int v :: .ref a :: st) h Q = ((xe_ia h a ∧ xe_ix h a v) ∧ xe_P d 219 1057 ls (.int (xe_I h a v.toNatClampNeg) :: st) h Q) := xe_P_iald (by decide +kernel)
theorem xs_219_1057 : xe_P d 219 1057 ls (v2 :: v1 :: v0 :: .ref a :: st) h Q = ((xe_w st ≤ 8 ∧ xe_ob h a 6) ∧ xe_C d 111 [.ref a, v0, v1, v2] h (fun r h' => xe_P d 219 1060 ls (r.toList ++ st) h' Q)) := xe_P_ivv (y := 219) (pc := 1057) (z := 111) (i := 135) (vs := [v2, v1, v0]) (by decide +kernel) (by decide +kernel) rfl (by decide +kernel)
theorem xs_219_1060 : xe_P d 219 1060 [l0, l1, .ref a, l3] st h Q = xe_P d 219 1061 [l0, l1, .ref a, l3] (.ref a :: st) h Q := xe_P_lo (ins := .aload_n 2) (len := 1) (by decide +kernel) rfl rfl
theorem xs_219_1061 : xe_P d 219 1061 [.ref a, l1, l2, l3] st h Q = xe_P d 219 1062 [.ref a, l1, l2, l3] (.ref a :: st) h Q := xe_P_lo (ins := .aload_n 0) (len := 1) (by decide +kernel) rfl rfl
theorem xs_219_1062 : xe_P d 219 1062 [l0, l1, l2, .int x] st h Q = xe_P d 219 1063 [l0, l1, l2, .int x] (.int x :: st) h Q := xe_P_lo (ins := .iload_n 3) (len := 1) (by decide +kernel) rfl rfl
theorem xs_219_1063 : xe_P d 219 1063 ls st h Q = xe_P d 219 1064 ls (.int 1 :: st) h Q := xe_P_ar (ins := .iconst 1) (len := 1) (by decide +kernel) rfl
theorem xs_219_1064 : xe_P d 219 1064 ls (.int v :: .int x :: st) h Q = xe_P d 219 1065 ls (.int (x + v) :: st) h Q := xe_P_ar (ins := .iadd) (len := 1) (by decide +kernel) rfl
theorem xs_219_1065 : xe_P d 219 1065 ls (.int v :: .ref a :: st) h Q = ((xe_ia h a ∧ xe_ix h a v) ∧ xe_P d 219 1066 ls (.int (xe_I h a v.toNatClampNeg) :: st) h Q) := xe_P_iald (by decide +kernel)
theorem xs_219_1066 : xe_P d 219 1066 [.ref a, l1, l2, l3] st h Q = xe_P d 219 1067 [.ref a, l1, l2, l3] (.ref a :: st) h Q := xe_P_lo (ins := .aload_n 0) (len := 1) (by decide +kernel) rfl rfl
theorem xs_219_1067 : xe_P d 219 1067 [l0, l1, l2, .int x] st h Q = xe_P d 219 1068 [l0, l1, l2, .int x] (.int x :: st) h Q := xe_P_lo (ins := .iload_n 3) (len := 1) (by decide +kernel) rfl rfl
theorem xs_219_1068 : xe_P d 219 1068 ls st h Q = xe_P d 219 1069 ls (.int 2 :: st) h Q := xe_P_ar (ins := .iconst 2) (len := 1) (by decide +kernel) rfl
theorem xs_219_1069 : xe_P d 219 1069 ls (.int v :: .int x :: st) h Q = xe_P d 219 1070 ls (.int (x + v) :: st) h Q := xe_P_ar (ins := .iadd) (len := 1) (by decide +kernel) rfl
theorem xs_219_1070 : xe_P d 219 1070 ls (.int v :: .ref a :: st) h Q = ((xe_ia h a ∧ xe_ix h a v) ∧ xe_P d 219 1071 ls (.int (xe_I h a v.toNatClampNeg) :: st) h Q) := xe_P_iald (by decide +kernel)
theorem xs_219_1071 : xe_P d 219 1071 [.ref a, l1, l2, l3] st h Q = xe_P d 219 1072 [.ref a, l1, l2, l3] (.ref a :: st) h Q := xe_P_lo (ins := .aload_n 0) (len := 1) (by decide +kernel) rfl rfl
theorem xs_219_1072 : xe_P d 219 1072 [l0, l1, l2, .int x] st h Q = xe_P d 219 1073 [l0, l1, l2, .int x] (.int x :: st) h Q := xe_P_lo (ins := .iload_n 3) (len := 1) (by decide +kernel) rfl rfl
theorem xs_219_1073 : xe_P d 219 1073 ls st h Q = xe_P d 219 1074 ls (.int 3 :: st) h Q := xe_P_ar (ins := .iconst 3) (len := 1) (by decide +kernel) rfl
theorem xs_219_1074 : xe_P d 219 1074 ls (.int v :: .int x :: st) h Q = xe_P d 219 1075 ls (.int (x + v) :: st) h Q := xe_P_ar (ins := .iadd) (len := 1) (by decide +kernel) rfl
theorem xs_219_1075 : xe_P d 219 1075 ls (.int v :: .ref a :: st) h Q = ((xe_ia h a ∧ xe_ix h a v) ∧ xe_P d 219 1076 ls (.int (xe_I h a v.toNatClampNeg) :: st) h Q) := xe_P_iald (by decide +kernel)
theorem xs_219_1076 : xe_P d 219 1076 ls (v2 :: v1 :: v0 :: .ref a :: st) h Q = ((xe_w st ≤ 8 ∧ xe_ob h a 7) ∧ xe_C d 198 [.ref a, v0, v1, v2] h (fun r h' => xe_P d 219 1079 ls (r.toList ++ st) h' Q)) := xe_P_ivv (y := 219) (pc := 1076) (z := 198) (i := 138) (vs := [v2, v1, v0]) (by decide +kernel) (by decide +kernel) rfl (by decide +kernel)
theorem xs_219_1079 : xe_P d 219 1079 ls (.int v :: .int x :: st) h Q = (if x = v then xe_P d 219 1216 ls st h Q else xe_P d 219 1082 ls st h Q) := xe_P_if (ins := .if_icmp .eq 137) (len := 3) (off := 137) (by decide +kernel) (by decide) rfl rfl rfl
theorem xs_219_1082 : xe_P d 219 1082 ls st h Q = xe_P d 219 1083 ls (.int 0 :: st) h Q := xe_P_ar (ins := .iconst 0) (len := 1) (by decide +kernel) rfl
theorem xs_219_1083 : xe_P d 219 1083 ls [.int x] h Q = ((x = 0 ∨ x = 1) ∧ Q (some (.int x)) h) := xe_P_zreturn (by decide +kernel) rfl
theorem xs_219_1084 : xe_P d 219 1084 [l0, .ref a, l2, l3] st h Q = xe_P d 219 1085 [l0, .ref a, l2, l3] (.ref a :: st) h Q := xe_P_lo (ins := .aload_n 1) (len := 1) (by decide +kernel) rfl rfl
theorem xs_219_1085 : xe_P d 219 1085 [.ref a, l1, l2, l3] st h Q = xe_P d 219 1086 [.ref a, l1, l2, l3] (.ref a :: st) h Q := xe_P_lo (ins := .aload_n 0) (len := 1) (by decide +kernel) rfl rfl
theorem xs_219_1086 : xe_P d 219 1086 [l0, l1, l2, .int x] st h Q = xe_P d 219 1087 [l0, l1, l2, .int x] (.int x :: st) h Q := xe_P_lo (ins := .iload_n 3) (len := 1) (by decide +kernel) rfl rfl
theorem xs_219_1087 : xe_P d 219 1087 ls st h Q = xe_P d 219 1088 ls (.int 1 :: st) h Q := xe_P_ar (ins := .iconst 1) (len := 1) (by decide +kernel) rfl
theorem xs_219_1088 : xe_P d 219 1088 ls (.int v :: .int x :: st) h Q = xe_P d 219 1089 ls (.int (x + v) :: st) h Q := xe_P_ar (ins := .iadd) (len := 1) (by decide +kernel) rfl
theorem xs_219_1089 : xe_P d 219 1089 ls (.int v :: .ref a :: st) h Q = ((xe_ia h a ∧ xe_ix h a v) ∧ xe_P d 219 1090 ls (.int (xe_I h a v.toNatClampNeg) :: st) h Q) := xe_P_iald (by decide +kernel)
theorem xs_219_1090 : xe_P d 219 1090 [.ref a, l1, l2, l3] st h Q = xe_P d 219 1091 [.ref a, l1, l2, l3] (.ref a :: st) h Q := xe_P_lo (ins := .aload_n 0) (len := 1) (by decide +kernel) rfl rfl
theorem xs_219_1091 : xe_P d 219 1091 [l0, l1, l2, .int x] st h Q = xe_P d 219 1092 [l0, l1, l2, .int x] (.int x :: st) h Q := xe_P_lo (ins := .iload_n 3) (len := 1) (by decide +kernel) rfl rfl
theorem xs_219_1092 : xe_P d 219 1092 ls st h Q = xe_P d 219 1093 ls (.int 2 :: st) h Q := xe_P_ar (ins := .iconst 2) (len := 1) (by decide +kernel) rfl
theorem xs_219_1093 : xe_P d 219 1093 ls (.int v :: .int x :: st) h Q = xe_P d 219 1094 ls (.int (x + v) :: st) h Q := xe_P_ar (ins := .iadd) (len := 1) (by decide +kernel) rfl
theorem xs_219_1094 : xe_P d 219 1094 ls (.int v :: .ref a :: st) h Q = ((xe_ia h a ∧ xe_ix h a v) ∧ xe_P d 219 1095 ls (.int (xe_I h a v.toNatClampNeg) :: st) h Q) := xe_P_iald (by decide +kernel)
theorem xs_219_1095 : xe_P d 219 1095 [.ref a, l1, l2, l3] st h Q = xe_P d 219 1096 [.ref a, l1, l2, l3] (.ref a :: st) h Q := xe_P_lo (ins := .aload_n 0) (len := 1) (by decide +kernel) rfl rfl
theorem xs_219_1096 : xe_P d 219 1096 [l0, l1, l2, .int x] st h Q = xe_P d 219 1097 [l0, l1, l2, .int x] (.int x :: st) h Q := xe_P_lo (ins := .iload_n 3) (len := 1) (by decide +kernel) rfl rfl
theorem xs_219_1097 : xe_P d 219 1097 ls st h Q = xe_P d 219 1098 ls (.int 3 :: st) h Q := xe_P_ar (ins := .iconst 3) (len := 1) (by decide +kernel) rfl
theorem xs_219_1098 : xe_P d 219 1098 ls (.int v :: .int x :: st) h Q = xe_P d 219 1099 ls (.int (x + v) :: st) h Q := xe_P_ar (ins := .iadd) (len := 1) (by decide +kernel) rfl
theorem xs_219_1099 : xe_P d 219 1099 ls (.int v :: .ref a :: st) h Q = ((xe_ia h a ∧ xe_ix h a v) ∧ xe_P d 219 1100 ls (.int (xe_I h a v.toNatClampNeg) :: st) h Q) := xe_P_iald (by decide +kernel)
theorem xs_219_1100 : xe_P d 219 1100 ls (v2 :: v1 :: v0 :: .ref a :: st) h Q = ((xe_w st ≤ 8 ∧ xe_ob h a 6) ∧ xe_C d 112 [.ref a, v0, v1, v2] h (fun r h' => xe_P d 219 1103 ls (r.toList ++ st) h' Q)) := xe_P_ivv (y := 219) (pc := 1100) (z := 112) (i := 139) (vs := [v2, v1, v0]) (by decide +kernel) (by decide +kernel) rfl (by decide +kernel)
theorem xs_219_1103 : xe_P d 219 1103 [l0, l1, .ref a, l3] st h Q = xe_P d 219 1104 [l0, l1, .ref a, l3] (.ref a :: st) h Q := xe_P_lo (ins := .aload_n 2) (len := 1) (by decide +kernel) rfl rfl
theorem xs_219_1104 : xe_P d 219 1104 [.ref a, l1, l2, l3] st h Q = xe_P d 219 1105 [.ref a, l1, l2, l3] (.ref a :: st) h Q := xe_P_lo (ins := .aload_n 0) (len := 1) (by decide +kernel) rfl rfl
theorem xs_219_1105 : xe_P d 219 1105 [l0, l1, l2, .int x] st h Q = xe_P d 219 1106 [l0, l1, l2, .int x] (.int x :: st) h Q := xe_P_lo (ins := .iload_n 3) (len := 1) (by decide +kernel) rfl rfl
theorem xs_219_1106 : xe_P d 219 1106 ls st h Q = xe_P d 219 1107 ls (.int 1 :: st) h Q := xe_P_ar (ins := .iconst 1) (len := 1) (by decide +kernel) rfl
theorem xs_219_1107 : xe_P d 219 1107 ls (.int v :: .int x :: st) h Q = xe_P d 219 1108 ls (.int (x + v) :: st) h Q := xe_P_ar (ins := .iadd) (len := 1) (by decide +kernel) rfl
theorem xs_219_1108 : xe_P d 219 1108 ls (.int v :: .ref a :: st) h Q = ((xe_ia h a ∧ xe_ix h a v) ∧ xe_P d 219 1109 ls (.int (xe_I h a v.toNatClampNeg) :: st) h Q) := xe_P_iald (by decide +kernel)
theorem xs_219_1109 : xe_P d 219 1109 [.ref a, l1, l2, l3] st h Q = xe_P d 219 1110 [.ref a, l1, l2, l3] (.ref a :: st) h Q := xe_P_lo (ins := .aload_n 0) (len := 1) (by decide +kernel) rfl rfl
theorem xs_219_1110 : xe_P d 219 1110 [l0, l1, l2, .int x] st h Q = xe_P d 219 1111 [l0, l1, l2, .int x] (.int x :: st) h Q := xe_P_lo (ins := .iload_n 3) (len := 1) (by decide +kernel) rfl rfl
theorem xs_219_1111 : xe_P d 219 1111 ls st h Q = xe_P d 219 1112 ls (.int 2 :: st) h Q := xe_P_ar (ins := .iconst 2) (len := 1) (by decide +kernel) rfl
theorem xs_219_1112 : xe_P d 219 1112 ls (.int v :: .int x :: st) h Q = xe_P d 219 1113 ls (.int (x + v) :: st) h Q := xe_P_ar (ins := .iadd) (len := 1) (by decide +kernel) rfl
theorem xs_219_1113 : xe_P d 219 1113 ls (.int v :: .ref a :: st) h Q = ((xe_ia h a ∧ xe_ix h a v) ∧ xe_P d 219 1114 ls (.int (xe_I h a v.toNatClampNeg) :: st) h Q) := xe_P_iald (by decide +kernel)
theorem xs_219_1114 : xe_P d 219 1114 [.ref a, l1, l2, l3] st h Q = xe_P d 219 1115 [.ref a, l1, l2, l3] (.ref a :: st) h Q := xe_P_lo (ins := .aload_n 0) (len := 1) (by decide +kernel) rfl rfl
theorem xs_219_1115 : xe_P d 219 1115 [l0, l1, l2, .int x] st h Q = xe_P d 219 1116 [l0, l1, l2, .int x] (.int x :: st) h Q := xe_P_lo (ins := .iload_n 3) (len := 1) (by decide +kernel) rfl rfl
theorem xs_219_1116 : xe_P d 219 1116 ls st h Q = xe_P d 219 1117 ls (.int 3 :: st) h Q := xe_P_ar (ins := .iconst 3) (len := 1) (by decide +kernel) rfl
theorem xs_219_1117 : xe_P d 219 1117 ls (.int v :: .int x :: st) h Q = xe_P d 219 1118 ls (.int (x + v) :: st) h Q := xe_P_ar (ins := .iadd) (len := 1) (by decide +kernel) rfl
theorem xs_219_1118 : xe_P d 219 1118 ls (.int v :: .ref a :: st) h Q = ((xe_ia h a ∧ xe_ix h a v) ∧ xe_P d 219 1119 ls (.int (xe_I h a v.toNatClampNeg) :: st) h Q) := xe_P_iald (by decide +kernel)
theorem xs_219_1119 : xe_P d 219 1119 ls (v2 :: v1 :: v0 :: .ref a :: st) h Q = ((xe_w st ≤ 8 ∧ xe_ob h a 7) ∧ xe_C d 199 [.ref a, v0, v1, v2] h (fun r h' => xe_P d 219 1122 ls (r.toList ++ st) h' Q)) := xe_P_ivv (y := 219) (pc := 1119) (z := 199) (i := 142) (vs := [v2, v1, v0]) (by decide +kernel) (by decide +kernel) rfl (by decide +kernel)
theorem xs_219_1122 : xe_P d 219 1122 ls (.int v :: .int x :: st) h Q = (if x = v then xe_P d 219 1216 ls st h Q else xe_P d 219 1125 ls st h Q) := xe_P_if (ins := .if_icmp .eq 94) (len := 3) (off := 94) (by decide +kernel) (by decide) rfl rfl rfl
theorem xs_219_1125 : xe_P d 219 1125 ls st h Q = xe_P d 219 1126 ls (.int 0 :: st) h Q := xe_P_ar (ins := .iconst 0) (len := 1) (by decide +kernel) rfl
theorem xs_219_1126 : xe_P d 219 1126 ls [.int x] h Q = ((x = 0 ∨ x = 1) ∧ Q (some (.int x)) h) := xe_P_zreturn (by decide +kernel) rfl
theorem xs_219_1127 : xe_P d 219 1127 [l0, .ref a, l2, l3] st h Q = xe_P d 219 1128 [l0, .ref a, l2, l3] (.ref a :: st) h Q := xe_P_lo (ins := .aload_n 1) (len := 1) (by decide +kernel) rfl rfl
theorem xs_219_1128 : xe_P d 219 1128 [.ref a, l1, l2, l3] st h Q = xe_P d 219 1129 [.ref a, l1, l2, l3] (.ref a :: st) h Q := xe_P_lo (ins := .aload_n 0) (len := 1) (by decide +kernel) rfl rfl
theorem xs_219_1129 : xe_P d 219 1129 [l0, l1, l2, .int x] st h Q = xe_P d 219 1130 [l0, l1, l2, .int x] (.int x :: st) h Q := xe_P_lo (ins := .iload_n 3) (len := 1) (by decide +kernel) rfl rfl
theorem xs_219_1130 : xe_P d 219 1130 ls st h Q = xe_P d 219 1131 ls (.int 1 :: st) h Q := xe_P_ar (ins := .iconst 1) (len := 1) (by decide +kernel) rfl
theorem xs_219_1131 : xe_P d 219 1131 ls (.int v :: .int x :: st) h Q = xe_P d 219 1132 ls (.int (x + v) :: st) h Q := xe_P_ar (ins := .iadd) (len := 1) (by decide +kernel) rfl
theorem xs_219_1132 : xe_P d 219 1132 ls (.int v :: .ref a :: st) h Q = ((xe_ia h a ∧ xe_ix h a v) ∧ xe_P d 219 1133 ls (.int (xe_I h a v.toNatClampNeg) :: st) h Q) := xe_P_iald (by decide +kernel)
theorem xs_219_1133 : xe_P d 219 1133 [.ref a, l1, l2, l3] st h Q = xe_P d 219 1134 [.ref a, l1, l2, l3] (.ref a :: st) h Q := xe_P_lo (ins := .aload_n 0) (len := 1) (by decide +kernel) rfl rfl
theorem xs_219_1134 : xe_P d 219 1134 [l0, l1, l2, .int x] st h Q = xe_P d 219 1135 [l0, l1, l2, .int x] (.int x :: st) h Q := xe_P_lo (ins := .iload_n 3) (len := 1) (by decide +kernel) rfl rfl
theorem xs_219_1135 : xe_P d 219 1135 ls st h Q = xe_P d 219 1136 ls (.int 2 :: st) h Q := xe_P_ar (ins := .iconst 2) (len := 1) (by decide +kernel) rfl
theorem xs_219_1136 : xe_P d 219 1136 ls (.int v :: .int x :: st) h Q = xe_P d 219 1137 ls (.int (x + v) :: st) h Q := xe_P_ar (ins := .iadd) (len := 1) (by decide +kernel) rfl
theorem xs_219_1137 : xe_P d 219 1137 ls (.int v :: .ref a :: st) h Q = ((xe_ia h a ∧ xe_ix h a v) ∧ xe_P d 219 1138 ls (.int (xe_I h a v.toNatClampNeg) :: st) h Q) := xe_P_iald (by decide +kernel)
theorem xs_219_1138 : xe_P d 219 1138 [.ref a, l1, l2, l3] st h Q = xe_P d 219 1139 [.ref a, l1, l2, l3] (.ref a :: st) h Q := xe_P_lo (ins := .aload_n 0) (len := 1) (by decide +kernel) rfl rfl
theorem xs_219_1139 : xe_P d 219 1139 [l0, l1, l2, .int x] st h Q = xe_P d 219 1140 [l0, l1, l2, .int x] (.int x :: st) h Q := xe_P_lo (ins := .iload_n 3) (len := 1) (by decide +kernel) rfl rfl
theorem xs_219_1140 : xe_P d 219 1140 ls st h Q = xe_P d 219 1141 ls (.int 3 :: st) h Q := xe_P_ar (ins := .iconst 3) (len := 1) (by decide +kernel) rfl
theorem xs_219_1141 : xe_P d 219 1141 ls (.int v :: .int x :: st) h Q = xe_P d 219 1142 ls (.int (x + v) :: st) h Q := xe_P_ar (ins := .iadd) (len := 1) (by decide +kernel) rfl
theorem xs_219_1142 : xe_P d 219 1142 ls (.int v :: .ref a :: st) h Q = ((xe_ia h a ∧ xe_ix h a v) ∧ xe_P d 219 1143 ls (.int (xe_I h a v.toNatClampNeg) :: st) h Q) := xe_P_iald (by decide +kernel)
theorem xs_219_1143 : xe_P d 219 1143 [.ref a, l1, l2, l3] st h Q = xe_P d 219 1144 [.ref a, l1, l2, l3] (.ref a :: st) h Q := xe_P_lo (ins := .aload_n 0) (len := 1) (by decide +kernel) rfl rfl
theorem xs_219_1144 : xe_P d 219 1144 [l0, l1, l2, .int x] st h Q = xe_P d 219 1145 [l0, l1, l2, .int x] (.int x :: st) h Q := xe_P_lo (ins := .iload_n 3) (len := 1) (by decide +kernel) rfl rfl
theorem xs_219_1145 : xe_P d 219 1145 ls st h Q = xe_P d 219 1146 ls (.int 4 :: st) h Q := xe_P_ar (ins := .iconst 4) (len := 1) (by decide +kernel) rfl
theorem xs_219_1146 : xe_P d 219 1146 ls (.int v :: .int x :: st) h Q = xe_P d 219 1147 ls (.int (x + v) :: st) h Q := xe_P_ar (ins := .iadd) (len := 1) (by decide +kernel) rfl
theorem xs_219_1147 : xe_P d 219 1147 ls (.int v :: .ref a :: st) h Q = ((xe_ia h a ∧ xe_ix h a v) ∧ xe_P d 219 1148 ls (.int (xe_I h a v.toNatClampNeg) :: st) h Q) := xe_P_iald (by decide +kernel)
theorem xs_219_1148 : xe_P d 219 1148 ls (v3 :: v2 :: v1 :: v0 :: .ref a :: st) h Q = ((xe_w st ≤ 8 ∧ xe_ob h a 6) ∧ xe_C d 113 [.ref a, v0, v1, v2, v3] h (fun r h' => xe_P d 219 1151 ls (r.toList ++ st) h' Q)) := xe_P_ivv (y := 219) (pc := 1148) (z := 113) (i := 143) (vs := [v3, v2, v1, v0]) (by decide +kernel) (by decide +kernel) rfl (by decide +kernel)
theorem xs_219_1151 : xe_P d 219 1151 [l0, l1, .ref a, l3] st h Q = xe_P d 219 1152 [l0, l1, .ref a, l3] (.ref a :: st) h Q := xe_P_lo (ins := .aload_n 2) (len := 1) (by decide +kernel) rfl rfl
theorem xs_219_1152 : xe_P d 219 1152 [.ref a, l1, l2, l3] st h Q = xe_P d 219 1153 [.ref a, l1, l2, l3] (.ref a :: st) h Q := xe_P_lo (ins := .aload_n 0) (len := 1) (by decide +kernel) rfl rfl
theorem xs_219_1153 : xe_P d 219 1153 [l0, l1, l2, .int x] st h Q = xe_P d 219 1154 [l0, l1, l2, .int x] (.int x :: st) h Q := xe_P_lo (ins := .iload_n 3) (len := 1) (by decide +kernel) rfl rfl
theorem xs_219_1154 : xe_P d 219 1154 ls st h Q = xe_P d 219 1155 ls (.int 1 :: st) h Q := xe_P_ar (ins := .iconst 1) (len := 1) (by decide +kernel) rfl
theorem xs_219_1155 : xe_P d 219 1155 ls (.int v :: .int x :: st) h Q = xe_P d 219 1156 ls (.int (x + v) :: st) h Q := xe_P_ar (ins := .iadd) (len := 1) (by decide +kernel) rfl
theorem xs_219_1156 : xe_P d 219 1156 ls (.int v :: .ref a :: st) h Q = ((xe_ia h a ∧ xe_ix h a v) ∧ xe_P d 219 1157 ls (.int (xe_I h a v.toNatClampNeg) :: st) h Q) := xe_P_iald (by decide +kernel)
theorem xs_219_1157 : xe_P d 219 1157 [.ref a, l1, l2, l3] st h Q = xe_P d 219 1158 [.ref a, l1, l2, l3] (.ref a :: st) h Q := xe_P_lo (ins := .aload_n 0) (len := 1) (by decide +kernel) rfl rfl
theorem xs_219_1158 : xe_P d 219 1158 [l0, l1, l2, .int x] st h Q = xe_P d 219 1159 [l0, l1, l2, .int x] (.int x :: st) h Q := xe_P_lo (ins := .iload_n 3) (len := 1) (by decide +kernel) rfl rfl
theorem xs_219_1159 : xe_P d 219 1159 ls st h Q = xe_P d 219 1160 ls (.int 2 :: st) h Q := xe_P_ar (ins := .iconst 2) (len := 1) (by decide +kernel) rfl
theorem xs_219_1160 : xe_P d 219 1160 ls (.int v :: .int x :: st) h Q = xe_P d 219 1161 ls (.int (x + v) :: st) h Q := xe_P_ar (ins := .iadd) (len := 1) (by decide +kernel) rfl
theorem xs_219_1161 : xe_P d 219 1161 ls (.int v :: .ref a :: st) h Q = ((xe_ia h a ∧ xe_ix h a v) ∧ xe_P d 219 1162 ls (.int (xe_I h a v.toNatClampNeg) :: st) h Q) := xe_P_iald (by decide +kernel)
theorem xs_219_1162 : xe_P d 219 1162 [.ref a, l1, l2, l3] st h Q = xe_P d 219 1163 [.ref a, l1, l2, l3] (.ref a :: st) h Q := xe_P_lo (ins := .aload_n 0) (len := 1) (by decide +kernel) rfl rfl
theorem xs_219_1163 : xe_P d 219 1163 [l0, l1, l2, .int x] st h Q = xe_P d 219 1164 [l0, l1, l2, .int x] (.int x :: st) h Q := xe_P_lo (ins := .iload_n 3) (len := 1) (by decide +kernel) rfl rfl
theorem xs_219_1164 : xe_P d 219 1164 ls st h Q = xe_P d 219 1165 ls (.int 3 :: st) h Q := xe_P_ar (ins := .iconst 3) (len := 1) (by decide +kernel) rfl
theorem xs_219_1165 : xe_P d 219 1165 ls (.int v :: .int x :: st) h Q = xe_P d 219 1166 ls (.int (x + v) :: st) h Q := xe_P_ar (ins := .iadd) (len := 1) (by decide +kernel) rfl
theorem xs_219_1166 : xe_P d 219 1166 ls (.int v :: .ref a :: st) h Q = ((xe_ia h a ∧ xe_ix h a v) ∧ xe_P d 219 1167 ls (.int (xe_I h a v.toNatClampNeg) :: st) h Q) := xe_P_iald (by decide +kernel)
theorem xs_219_1167 : xe_P d 219 1167 [.ref a, l1, l2, l3] st h Q = xe_P d 219 1168 [.ref a, l1, l2, l3] (.ref a :: st) h Q := xe_P_lo (ins := .aload_n 0) (len := 1) (by decide +kernel) rfl rfl
theorem xs_219_1168 : xe_P d 219 1168 [l0, l1, l2, .int x] st h Q = xe_P d 219 1169 [l0, l1, l2, .int x] (.int x :: st) h Q := xe_P_lo (ins := .iload_n 3) (len := 1) (by decide +kernel) rfl rfl
theorem xs_219_1169 : xe_P d 219 1169 ls st h Q = xe_P d 219 1170 ls (.int 4 :: st) h Q := xe_P_ar (ins := .iconst 4) (len := 1) (by decide +kernel) rfl
theorem xs_219_1170 : xe_P d 219 1170 ls (.int v :: .int x :: st) h Q = xe_P d 219 1171 ls (.int (x + v) :: st) h Q := xe_P_ar (ins := .iadd) (len := 1) (by decide +kernel) rfl
theorem xs_219_1171 : xe_P d 219 1171 ls (.int v :: .ref a :: st) h Q = ((xe_ia h a ∧ xe_ix h a v) ∧ xe_P d 219 1172 ls (.int (xe_I h a v.toNatClampNeg) :: st) h Q) := xe_P_iald (by decide +kernel)
theorem xs_219_1172 : xe_P d 219 1172 ls (v3 :: v2 :: v1 :: v0 :: .ref a :: st) h Q = ((xe_w st ≤ 8 ∧ xe_ob h a 7) ∧ xe_C d 200 [.ref a, v0, v1, v2, v3] h (fun r h' => xe_P d 219 1175 ls (r.toList ++ st) h' Q)) := xe_P_ivv (y := 219) (pc := 1172) (z := 200) (i := 146) (vs := [v3, v2, v1, v0]) (by decide +kernel) (by decide +kernel) rfl (by decide +kernel)
theorem xs_219_1175 : xe_P d 219 1175 ls (.int v :: .int x :: st) h Q = (if x = v then xe_P d 219 1216 ls st h Q else xe_P d 219 1178 ls st h Q) := xe_P_if (ins := .if_icmp .eq 41) (len := 3) (off := 41) (by decide +kernel) (by decide) rfl rfl rfl
theorem xs_219_1178 : xe_P d 219 1178 ls st h Q = xe_P d 219 1179 ls (.int 0 :: st) h Q := xe_P_ar (ins := .iconst 0) (len := 1) (by decide +kernel) rfl
theorem xs_219_1179 : xe_P d 219 1179 ls [.int x] h Q = ((x = 0 ∨ x = 1) ∧ Q (some (.int x)) h) := xe_P_zreturn (by decide +kernel) rfl
theorem xs_219_1180 : xe_P d 219 1180 [l0, .ref a, l2, l3] st h Q = xe_P d 219 1181 [l0, .ref a, l2, l3] (.ref a :: st) h Q := xe_P_lo (ins := .aload_n 1) (len := 1) (by decide +kernel) rfl rfl
theorem xs_219_1181 : xe_P d 219 1181 ls (.ref a :: st) h Q = ((xe_w st ≤ 8 ∧ xe_ob h a 6) ∧ xe_C d 114 [.ref a] h (fun r h' => xe_P d 219 1184 ls (r.toList ++ st) h' Q)) := xe_P_ivv (y := 219) (pc := 1181) (z := 114) (i := 147) (vs := []) (by decide +kernel) (by decide +kernel) rfl (by decide +kernel)
theorem xs_219_1184 : xe_P d 219 1184 [l0, l1, .ref a, l3] st h Q = xe_P d 219 1185 [l0, l1, .ref a, l3] (.ref a :: st) h Q := xe_P_lo (ins := .aload_n 2) (len := 1) (by decide +kernel) rfl rfl
theorem xs_219_1185 : xe_P d 219 1185 ls (.ref a :: st) h Q = ((xe_w st ≤ 8 ∧ xe_ob h a 7) ∧ xe_C d 201 [.ref a] h (fun r h' => xe_P d 219 1188 ls (r.toList ++ st) h' Q)) := xe_P_ivv (y := 219) (pc := 1185) (z := 201) (i := 150) (vs := []) (by decide +kernel) (by decide +kernel) rfl (by decide +kernel)
theorem xs_219_1188 : xe_P d 219 1188 ls (.int v :: .int x :: st) h Q = (if x = v then xe_P d 219 1216 ls st h Q else xe_P d 219 1191 ls st h Q) := xe_P_if (ins := .if_icmp .eq 28) (len := 3) (off := 28) (by decide +kernel) (by decide) rfl rfl rfl
theorem xs_219_1191 : xe_P d 219 1191 ls st h Q = xe_P d 219 1192 ls (.int 0 :: st) h Q := xe_P_ar (ins := .iconst 0) (len := 1) (by decide +kernel) rfl
theorem xs_219_1192 : xe_P d 219 1192 ls [.int x] h Q = ((x = 0 ∨ x = 1) ∧ Q (some (.int x)) h) := xe_P_zreturn (by decide +kernel) rfl
theorem xs_219_1193 : xe_P d 219 1193 [l0, .ref a, l2, l3] st h Q = xe_P d 219 1194 [l0, .ref a, l2, l3] (.ref a :: st) h Q := xe_P_lo (ins := .aload_n 1) (len := 1) (by decide +kernel) rfl rfl
theorem xs_219_1194 : xe_P d 219 1194 [.ref a, l1, l2, l3] st h Q = xe_P d 219 1195 [.ref a, l1, l2, l3] (.ref a :: st) h Q := xe_P_lo (ins := .aload_n 0) (len := 1) (by decide +kernel) rfl rfl
theorem xs_219_1195 : xe_P d 219 1195 [l0, l1, l2, .int x] st h Q = xe_P d 219 1196 [l0, l1, l2, .int x] (.int x :: st) h Q := xe_P_lo (ins := .iload_n 3) (len := 1) (by decide +kernel) rfl rfl
theorem xs_219_1196 : xe_P d 219 1196 ls st h Q = xe_P d 219 1197 ls (.int 1 :: st) h Q := xe_P_ar (ins := .iconst 1) (len := 1) (by decide +kernel) rfl
theorem xs_219_1197 : xe_P d 219 1197 ls (.int v :: .int x :: st) h Q = xe_P d 219 1198 ls (.int (x + v) :: st) h Q := xe_P_ar (ins := .iadd) (len := 1) (by decide +kernel) rfl
theorem xs_219_1198 : xe_P d 219 1198 ls (.int v :: .ref a :: st) h Q = ((xe_ia h a ∧ xe_ix h a v) ∧ xe_P d 219 1199 ls (.int (xe_I h a v.toNatClampNeg) :: st) h Q) := xe_P_iald (by decide +kernel)
theorem xs_219_1199 : xe_P d 219 1199 ls (v0 :: .ref a :: st) h Q = ((xe_w st ≤ 8 ∧ xe_ob h a 6) ∧ xe_C d 115 [.ref a, v0] h (fun r h' => xe_P d 219 1202 ls (r.toList ++ st) h' Q)) := xe_P_ivv (y := 219) (pc := 1199) (z := 115) (i := 151) (vs := [v0]) (by decide +kernel) (by decide +kernel) rfl (by decide +kernel)
theorem xs_219_1202 : xe_P d 219 1202 [l0, l1, .ref a, l3] st h Q = xe_P d 219 1203 [l0, l1, .ref a, l3] (.ref a :: st) h Q := xe_P_lo (ins := .aload_n 2) (len := 1) (by decide +kernel) rfl rfl
theorem xs_219_1203 : xe_P d 219 1203 [.ref a, l1, l2, l3] st h Q = xe_P d 219 1204 [.ref a, l1, l2, l3] (.ref a :: st) h Q := xe_P_lo (ins := .aload_n 0) (len := 1) (by decide +kernel) rfl rfl
theorem xs_219_1204 : xe_P d 219 1204 [l0, l1, l2, .int x] st h Q = xe_P d 219 1205 [l0, l1, l2, .int x] (.int x :: st) h Q := xe_P_lo (ins := .iload_n 3) (len := 1) (by decide +kernel) rfl rfl
theorem xs_219_1205 : xe_P d 219 1205 ls st h Q = xe_P d 219 1206 ls (.int 1 :: st) h Q := xe_P_ar (ins := .iconst 1) (len := 1) (by decide +kernel) rfl
theorem xs_219_1206 : xe_P d 219 1206 ls (.int v :: .int x :: st) h Q = xe_P d 219 1207 ls (.int (x + v) :: st) h Q := xe_P_ar (ins := .iadd) (len := 1) (by decide +kernel) rfl
theorem xs_219_1207 : xe_P d 219 1207 ls (.int v :: .ref a :: st) h Q = ((xe_ia h a ∧ xe_ix h a v) ∧ xe_P d 219 1208 ls (.int (xe_I h a v.toNatClampNeg) :: st) h Q) := xe_P_iald (by decide +kernel)
theorem xs_219_1208 : xe_P d 219 1208 ls (v0 :: .ref a :: st) h Q = ((xe_w st ≤ 8 ∧ xe_ob h a 7) ∧ xe_C d 202 [.ref a, v0] h (fun r h' => xe_P d 219 1211 ls (r.toList ++ st) h' Q)) := xe_P_ivv (y := 219) (pc := 1208) (z := 202) (i := 154) (vs := [v0]) (by decide +kernel) (by decide +kernel) rfl (by decide +kernel)
theorem xs_219_1211 : xe_P d 219 1211 ls (.int v :: .int x :: st) h Q = (if x = v then xe_P d 219 1216 ls st h Q else xe_P d 219 1214 ls st h Q) := xe_P_if (ins := .if_icmp .eq 5) (len := 3) (off := 5) (by decide +kernel) (by decide) rfl rfl rfl
theorem xs_219_1214 : xe_P d 219 1214 ls st h Q = xe_P d 219 1215 ls (.int 0 :: st) h Q := xe_P_ar (ins := .iconst 0) (len := 1) (by decide +kernel) rfl
theorem xs_219_1215 : xe_P d 219 1215 ls [.int x] h Q = ((x = 0 ∨ x = 1) ∧ Q (some (.int x)) h) := xe_P_zreturn (by decide +kernel) rfl
theorem xs_219_1216 : xe_P d 219 1216 [l0, l1, l2, .int x] st h Q = xe_P d 219 1219 [l0, l1, xe_cut l2, .int (x + 5)] st h Q := xe_P_lo (ins := .iinc 3 5) (len := 3) (by decide +kernel) rfl rfl
theorem xs_219_1219 : xe_P d 219 1219 ls st h Q = xe_P d 219 18 ls st h Q := xe_P_go (len := 3) (off := (-1201)) (by decide +kernel) (by decide)
theorem xs_219_1222 : xe_P d 219 1222 ls st h Q = xe_P d 219 1223 ls (.int 1 :: st) h Q := xe_P_ar (ins := .iconst 1) (len := 1) (by decide +kernel) rfl
theorem xs_219_1223 : xe_P d 219 1223 ls [.int x] h Q = ((x = 0 ∨ x = 1) ∧ Q (some (.int x)) h) := xe_P_zreturn (by decide +kernel) rfl
theorem xs_219 : xe_C (d + 1) 219 [.ref a0] h Q = xe_P d 219 0 [.ref a0, .retAddr 0, .retAddr 0, .retAddr 0] [] h Q := xe_C_at (Nat.le_of_ble_eq_true rfl) rfl
end XSL
