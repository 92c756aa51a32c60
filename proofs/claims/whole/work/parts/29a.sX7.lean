section XSX7a
variable {d : Nat} {l0 l1 l2 l3 l4 l5 l6 l7 l8 l9 l10 l11 v0 v1 v2 v3 v4 v5 : Value} {x v n x0 x1 x2 x3 x4 x5 : Int32} {w u w0 w1 w2 w3 : Int64} {a b a0 a1 a2 : Nat} {ls st : List Value} {h : xe_H} {Q : Option Value → xe_H → Prop}
theorem xs_119_0 : xe_P d 119 0 [.ref a] st h Q = xe_P d 119 1 [.ref a] (.ref a :: st) h Q := xe_P_lo (ins := .aload_n 0) (len := 1) (by decide +kernel) rfl rfl
theorem xs_119_1 : xe_P d 119 1 ls (.ref a :: st) h Q = ((a < xe_n h ∧ xe_n h ≤ xe_S ∧ xe_w st ≤ 8) ∧ xe_P d 119 4 ls st h Q) := xe_P_obj (i := 1) (by decide +kernel) (by decide +kernel) rfl
theorem xs_119_4 : xe_P d 119 4 [.ref a] st h Q = xe_P d 119 5 [.ref a] (.ref a :: st) h Q := xe_P_lo (ins := .aload_n 0) (len := 1) (by decide +kernel) rfl rfl
theorem xs_119_5 : xe_P d 119 5 ls st h Q = xe_P d 119 8 ls (.int 140 :: st) h Q := xe_P_ar (ins := .sipush 140) (len := 3) (by decide +kernel) rfl
theorem xs_119_8 : xe_P d 119 8 ls (.int v :: st) h Q = ((¬ v < 0 ∧ v.toNatClampNeg ≤ 200000 ∧ xe_n h < xe_S) ∧ xe_P d 119 10 ls (.ref (xe_n h) :: st) (xe_new h 8 v.toNatClampNeg) Q) := xe_P_newa (t := .int) (by decide +kernel) (by decide)
theorem xs_119_10 : xe_P d 119 10 ls (.ref b :: .ref a :: st) h Q = ((xe_ob h a 7 ∧ b < xe_S) ∧ xe_P d 119 13 ls st (xe_sR h a 0 (some b)) Q) := xe_P_putR (i := 7) (by decide +kernel) (by decide +kernel) (by decide) (by decide +kernel) rfl
theorem xs_119_13 : xe_P d 119 13 [.ref a] st h Q = xe_P d 119 14 [.ref a] (.ref a :: st) h Q := xe_P_lo (ins := .aload_n 0) (len := 1) (by decide +kernel) rfl rfl
theorem xs_119_14 : xe_P d 119 14 ls st h Q = xe_P d 119 15 ls (.int 2 :: st) h Q := xe_P_ar (ins := .iconst 2) (len := 1) (by decide +kernel) rfl
theorem xs_119_15 : xe_P d 119 15 ls (.int v :: .ref a :: st) h Q = (xe_ob h a 7 ∧ xe_P d 119 18 ls st (xe_sI h a 1 v) Q) := xe_P_putI (i := 13) (by decide +kernel) (by decide +kernel) (by decide) (by decide +kernel) rfl
theorem xs_119_18 : xe_P d 119 18 [.ref a] st h Q = xe_P d 119 19 [.ref a] (.ref a :: st) h Q := xe_P_lo (ins := .aload_n 0) (len := 1) (by decide +kernel) rfl rfl
theorem xs_119_19 : xe_P d 119 19 ls st h Q = xe_P d 119 21 ls (.int 35 :: st) h Q := xe_P_ar (ins := .bipush 35) (len := 2) (by decide +kernel) rfl
theorem xs_119_21 : xe_P d 119 21 ls (.int v :: st) h Q = ((¬ v < 0 ∧ v.toNatClampNeg ≤ 200000 ∧ xe_n h < xe_S) ∧ xe_P d 119 23 ls (.ref (xe_n h) :: st) (xe_new h 8 v.toNatClampNeg) Q) := xe_P_newa (t := .int) (by decide +kernel) (by decide)
theorem xs_119_23 : xe_P d 119 23 ls (.ref b :: .ref a :: st) h Q = ((xe_ob h a 7 ∧ b < xe_S) ∧ xe_P d 119 26 ls st (xe_sR h a 2 (some b)) Q) := xe_P_putR (i := 17) (by decide +kernel) (by decide +kernel) (by decide) (by decide +kernel) rfl
theorem xs_119_26 : xe_P d 119 26 [.ref a] st h Q = xe_P d 119 27 [.ref a] (.ref a :: st) h Q := xe_P_lo (ins := .aload_n 0) (len := 1) (by decide +kernel) rfl rfl
theorem xs_119_27 : xe_P d 119 27 ls st h Q = xe_P d 119 29 ls (.int 6 :: st) h Q := xe_P_ar (ins := .bipush 6) (len := 2) (by decide +kernel) rfl
theorem xs_119_29 : xe_P d 119 29 ls (.int v :: st) h Q = ((¬ v < 0 ∧ v.toNatClampNeg ≤ 200000 ∧ xe_n h < xe_S) ∧ xe_P d 119 31 ls (.ref (xe_n h) :: st) (xe_new h 8 v.toNatClampNeg) Q) := xe_P_newa (t := .int) (by decide +kernel) (by decide)
theorem xs_119_31 : xe_P d 119 31 ls (.ref b :: .ref a :: st) h Q = ((xe_ob h a 7 ∧ b < xe_S) ∧ xe_P d 119 34 ls st (xe_sR h a 9 (some b)) Q) := xe_P_putR (i := 20) (by decide +kernel) (by decide +kernel) (by decide) (by decide +kernel) rfl
theorem xs_119_34 : xe_P d 119 34 [.ref a] st h Q = xe_P d 119 35 [.ref a] (.ref a :: st) h Q := xe_P_lo (ins := .aload_n 0) (len := 1) (by decide +kernel) rfl rfl
theorem xs_119_35 : xe_P d 119 35 ls st h Q = xe_P d 119 37 ls (.int 6 :: st) h Q := xe_P_ar (ins := .bipush 6) (len := 2) (by decide +kernel) rfl
theorem xs_119_37 : xe_P d 119 37 ls (.int v :: st) h Q = ((¬ v < 0 ∧ v.toNatClampNeg ≤ 200000 ∧ xe_n h < xe_S) ∧ xe_P d 119 39 ls (.ref (xe_n h) :: st) (xe_new h 8 v.toNatClampNeg) Q) := xe_P_newa (t := .int) (by decide +kernel) (by decide)
theorem xs_119_39 : xe_P d 119 39 ls (.ref b :: .ref a :: st) h Q = ((xe_ob h a 7 ∧ b < xe_S) ∧ xe_P d 119 42 ls st (xe_sR h a 10 (some b)) Q) := xe_P_putR (i := 23) (by decide +kernel) (by decide +kernel) (by decide) (by decide +kernel) rfl
theorem xs_119_42 : xe_P d 119 42 [.ref a] st h Q = xe_P d 119 43 [.ref a] (.ref a :: st) h Q := xe_P_lo (ins := .aload_n 0) (len := 1) (by decide +kernel) rfl rfl
theorem xs_119_43 : xe_P d 119 43 ls st h Q = xe_P d 119 46 ls (.int 320 :: st) h Q := xe_P_ar (ins := .sipush 320) (len := 3) (by decide +kernel) rfl
theorem xs_119_46 : xe_P d 119 46 ls (.int v :: st) h Q = ((¬ v < 0 ∧ v.toNatClampNeg ≤ 200000 ∧ xe_n h < xe_S) ∧ xe_P d 119 48 ls (.ref (xe_n h) :: st) (xe_new h 8 v.toNatClampNeg) Q) := xe_P_newa (t := .int) (by decide +kernel) (by decide)
theorem xs_119_48 : xe_P d 119 48 ls (.ref b :: .ref a :: st) h Q = ((xe_ob h a 7 ∧ b < xe_S) ∧ xe_P d 119 51 ls st (xe_sR h a 11 (some b)) Q) := xe_P_putR (i := 26) (by decide +kernel) (by decide +kernel) (by decide) (by decide +kernel) rfl
theorem xs_119_51 : xe_P d 119 51 [.ref a] st h Q = xe_P d 119 52 [.ref a] (.ref a :: st) h Q := xe_P_lo (ins := .aload_n 0) (len := 1) (by decide +kernel) rfl rfl
theorem xs_119_52 : xe_P d 119 52 ls st h Q = xe_P d 119 54 ls (.int 8 :: st) h Q := xe_P_ar (ins := .bipush 8) (len := 2) (by decide +kernel) rfl
theorem xs_119_54 : xe_P d 119 54 ls (.int v :: st) h Q = ((¬ v < 0 ∧ v.toNatClampNeg ≤ 200000 ∧ xe_n h < xe_S) ∧ xe_P d 119 56 ls (.ref (xe_n h) :: st) (xe_new h 8 v.toNatClampNeg) Q) := xe_P_newa (t := .int) (by decide +kernel) (by decide)
theorem xs_119_56 : xe_P d 119 56 ls (.ref a :: st) h Q = xe_P d 119 57 ls (.ref a :: .ref a :: st) h Q := xe_P_ar (ins := .dup) (len := 1) (by decide +kernel) rfl
theorem xs_119_56i : xe_P d 119 56 ls (.int x :: st) h Q = xe_P d 119 57 ls (.int x :: .int x :: st) h Q := xe_P_ar (ins := .dup) (len := 1) (by decide +kernel) rfl
theorem xs_119_57 : xe_P d 119 57 ls st h Q = xe_P d 119 58 ls (.int 0 :: st) h Q := xe_P_ar (ins := .iconst 0) (len := 1) (by decide +kernel) rfl
theorem xs_119_58 : xe_P d 119 58 ls st h Q = xe_P d 119 59 ls (.int 0 :: st) h Q := xe_P_ar (ins := .iconst 0) (len := 1) (by decide +kernel) rfl
theorem xs_119_59 : xe_P d 119 59 ls (.int x :: .int v :: .ref a :: st) h Q = ((xe_ob h a 8 ∧ xe_ix h a v) ∧ xe_P d 119 60 ls st (xe_sI h a v.toNatClampNeg x) Q) := xe_P_iast (by decide +kernel)
theorem xs_119_60 : xe_P d 119 60 ls (.ref a :: st) h Q = xe_P d 119 61 ls (.ref a :: .ref a :: st) h Q := xe_P_ar (ins := .dup) (len := 1) (by decide +kernel) rfl
theorem xs_119_60i : xe_P d 119 60 ls (.int x :: st) h Q = xe_P d 119 61 ls (.int x :: .int x :: st) h Q := xe_P_ar (ins := .dup) (len := 1) (by decide +kernel) rfl
theorem xs_119_61 : xe_P d 119 61 ls st h Q = xe_P d 119 62 ls (.int 1 :: st) h Q := xe_P_ar (ins := .iconst 1) (len := 1) (by decide +kernel) rfl
theorem xs_119_62 : xe_P d 119 62 ls st h Q = xe_P d 119 64 ls (.int 6 :: st) h Q := xe_P_ar (ins := .bipush 6) (len := 2) (by decide +kernel) rfl
theorem xs_119_64 : xe_P d 119 64 ls (.int x :: .int v :: .ref a :: st) h Q = ((xe_ob h a 8 ∧ xe_ix h a v) ∧ xe_P d 119 65 ls st (xe_sI h a v.toNatClampNeg x) Q) := xe_P_iast (by decide +kernel)
theorem xs_119_65 : xe_P d 119 65 ls (.ref a :: st) h Q = xe_P d 119 66 ls (.ref a :: .ref a :: st) h Q := xe_P_ar (ins := .dup) (len := 1) (by decide +kernel) rfl
theorem xs_119_65i : xe_P d 119 65 ls (.int x :: st) h Q = xe_P d 119 66 ls (.int x :: .int x :: st) h Q := xe_P_ar (ins := .dup) (len := 1) (by decide +kernel) rfl
theorem xs_119_66 : xe_P d 119 66 ls st h Q = xe_P d 119 67 ls (.int 2 :: st) h Q := xe_P_ar (ins := .iconst 2) (len := 1) (by decide +kernel) rfl
theorem xs_119_67 : xe_P d 119 67 ls st h Q = xe_P d 119 69 ls (.int 10 :: st) h Q := xe_P_ar (ins := .bipush 10) (len := 2) (by decide +kernel) rfl
theorem xs_119_69 : xe_P d 119 69 ls (.int x :: .int v :: .ref a :: st) h Q = ((xe_ob h a 8 ∧ xe_ix h a v) ∧ xe_P d 119 70 ls st (xe_sI h a v.toNatClampNeg x) Q) := xe_P_iast (by decide +kernel)
theorem xs_119_70 : xe_P d 119 70 ls (.ref a :: st) h Q = xe_P d 119 71 ls (.ref a :: .ref a :: st) h Q := xe_P_ar (ins := .dup) (len := 1) (by decide +kernel) rfl
theorem xs_119_70i : xe_P d 119 70 ls (.int x :: st) h Q = xe_P d 119 71 ls (.int x :: .int x :: st) h Q := xe_P_ar (ins := .dup) (len := 1) (by decide +kernel) rfl
theorem xs_119_71 : xe_P d 119 71 ls st h Q = xe_P d 119 72 ls (.int 3 :: st) h Q := xe_P_ar (ins := .iconst 3) (len := 1) (by decide +kernel) rfl
theorem xs_119_72 : xe_P d 119 72 ls st h Q = xe_P d 119 74 ls (.int 13 :: st) h Q := xe_P_ar (ins := .bipush 13) (len := 2) (by decide +kernel) rfl
theorem xs_119_74 : xe_P d 119 74 ls (.int x :: .int v :: .ref a :: st) h Q = ((xe_ob h a 8 ∧ xe_ix h a v) ∧ xe_P d 119 75 ls st (xe_sI h a v.toNatClampNeg x) Q) := xe_P_iast (by decide +kernel)
theorem xs_119_75 : xe_P d 119 75 ls (.ref a :: st) h Q = xe_P d 119 76 ls (.ref a :: .ref a :: st) h Q := xe_P_ar (ins := .dup) (len := 1) (by decide +kernel) rfl
theorem xs_119_75i : xe_P d 119 75 ls (.int x :: st) h Q = xe_P d 119 76 ls (.int x :: .int x :: st) h Q := xe_P_ar (ins := .dup) (len := 1) (by decide +kernel) rfl
theorem xs_119_76 : xe_P d 119 76 ls st h Q = xe_P d 119 77 ls (.int 4 :: st) h Q := xe_P_ar (ins := .iconst 4) (len := 1) (by decide +kernel) rfl
theorem xs_119_77 : xe_P d 119 77 ls st h Q = xe_P d 119 79 ls (.int 19 :: st) h Q := xe_P_ar (ins := .bipush 19) (len := 2) (by decide +kernel) rfl
theorem xs_119_79 : xe_P d 119 79 ls (.int x :: .int v :: .ref a :: st) h Q = ((xe_ob h a 8 ∧ xe_ix h a v) ∧ xe_P d 119 80 ls st (xe_sI h a v.toNatClampNeg x) Q) := xe_P_iast (by decide +kernel)
theorem xs_119_80 : xe_P d 119 80 ls (.ref a :: st) h Q = xe_P d 119 81 ls (.ref a :: .ref a :: st) h Q := xe_P_ar (ins := .dup) (len := 1) (by decide +kernel) rfl
theorem xs_119_80i : xe_P d 119 80 ls (.int x :: st) h Q = xe_P d 119 81 ls (.int x :: .int x :: st) h Q := xe_P_ar (ins := .dup) (len := 1) (by decide +kernel) rfl
theorem xs_119_81 : xe_P d 119 81 ls st h Q = xe_P d 119 82 ls (.int 5 :: st) h Q := xe_P_ar (ins := .iconst 5) (len := 1) (by decide +kernel) rfl
theorem xs_119_82 : xe_P d 119 82 ls st h Q = xe_P d 119 84 ls (.int 24 :: st) h Q := xe_P_ar (ins := .bipush 24) (len := 2) (by decide +kernel) rfl
theorem xs_119_84 : xe_P d 119 84 ls (.int x :: .int v :: .ref a :: st) h Q = ((xe_ob h a 8 ∧ xe_ix h a v) ∧ xe_P d 119 85 ls st (xe_sI h a v.toNatClampNeg x) Q) := xe_P_iast (by decide +kernel)
theorem xs_119_85 : xe_P d 119 85 ls (.ref a :: st) h Q = xe_P d 119 86 ls (.ref a :: .ref a :: st) h Q := xe_P_ar (ins := .dup) (len := 1) (by decide +kernel) rfl
theorem xs_119_85i : xe_P d 119 85 ls (.int x :: st) h Q = xe_P d 119 86 ls (.int x :: .int x :: st) h Q := xe_P_ar (ins := .dup) (len := 1) (by decide +kernel) rfl
theorem xs_119_86 : xe_P d 119 86 ls st h Q = xe_P d 119 88 ls (.int 6 :: st) h Q := xe_P_ar (ins := .bipush 6) (len := 2) (by decide +kernel) rfl
theorem xs_119_88 : xe_P d 119 88 ls st h Q = xe_P d 119 90 ls (.int 28 :: st) h Q := xe_P_ar (ins := .bipush 28) (len := 2) (by decide +kernel) rfl
theorem xs_119_90 : xe_P d 119 90 ls (.int x :: .int v :: .ref a :: st) h Q = ((xe_ob h a 8 ∧ xe_ix h a v) ∧ xe_P d 119 91 ls st (xe_sI h a v.toNatClampNeg x) Q) := xe_P_iast (by decide +kernel)
theorem xs_119_91 : xe_P d 119 91 ls (.ref a :: st) h Q = xe_P d 119 92 ls (.ref a :: .ref a :: st) h Q := xe_P_ar (ins := .dup) (len := 1) (by decide +kernel) rfl
theorem xs_119_91i : xe_P d 119 91 ls (.int x :: st) h Q = xe_P d 119 92 ls (.int x :: .int x :: st) h Q := xe_P_ar (ins := .dup) (len := 1) (by decide +kernel) rfl
theorem xs_119_92 : xe_P d 119 92 ls st h Q = xe_P d 119 94 ls (.int 7 :: st) h Q := xe_P_ar (ins := .bipush 7) (len := 2) (by decide +kernel) rfl
theorem xs_119_94 : xe_P d 119 94 ls st h Q = xe_P d 119 96 ls (.int 31 :: st) h Q := xe_P_ar (ins := .bipush 31) (len := 2) (by decide +kernel) rfl
theorem xs_119_96 : xe_P d 119 96 ls (.int x :: .int v :: .ref a :: st) h Q = ((xe_ob h a 8 ∧ xe_ix h a v) ∧ xe_P d 119 97 ls st (xe_sI h a v.toNatClampNeg x) Q) := xe_P_iast (by decide +kernel)
theorem xs_119_97 : xe_P d 119 97 ls (.ref b :: .ref a :: st) h Q = ((xe_ob h a 7 ∧ b < xe_S) ∧ xe_P d 119 100 ls st (xe_sR h a 20 (some b)) Q) := xe_P_putR (i := 29) (by decide +kernel) (by decide +kernel) (by decide) (by decide +kernel) rfl
theorem xs_119_100 : xe_P d 119 100 [.ref a] st h Q = xe_P d 119 101 [.ref a] (.ref a :: st) h Q := xe_P_lo (ins := .aload_n 0) (len := 1) (by decide +kernel) rfl rfl
theorem xs_119_101 : xe_P d 119 101 ls st h Q = xe_P d 119 103 ls (.int 31 :: st) h Q := xe_P_ar (ins := .bipush 31) (len := 2) (by decide +kernel) rfl
theorem xs_119_103 : xe_P d 119 103 ls (.int v :: st) h Q = ((¬ v < 0 ∧ v.toNatClampNeg ≤ 200000 ∧ xe_n h < xe_S) ∧ xe_P d 119 105 ls (.ref (xe_n h) :: st) (xe_new h 8 v.toNatClampNeg) Q) := xe_P_newa (t := .int) (by decide +kernel) (by decide)
theorem xs_119_105 : xe_P d 119 105 ls (.ref a :: st) h Q = xe_P d 119 106 ls (.ref a :: .ref a :: st) h Q := xe_P_ar (ins := .dup) (len := 1) (by decide +kernel) rfl
theorem xs_119_105i : xe_P d 119 105 ls (.int x :: st) h Q = xe_P d 119 106 ls (.int x :: .int x :: st) h Q := xe_P_ar (ins := .dup) (len := 1) (by decide +kernel) rfl
theorem xs_119_106 : xe_P d 119 106 ls st h Q = xe_P d 119 107 ls (.int 0 :: st) h Q := xe_P_ar (ins := .iconst 0) (len := 1) (by decide +kernel) rfl
theorem xs_119_107 : xe_P d 119 107 ls st h Q = xe_P d 119 109 ls (.int 112 :: st) h Q := xe_P_ar (ins := .bipush 112) (len := 2) (by decide +kernel) rfl
theorem xs_119_109 : xe_P d 119 109 ls (.int x :: .int v :: .ref a :: st) h Q = ((xe_ob h a 8 ∧ xe_ix h a v) ∧ xe_P d 119 110 ls st (xe_sI h a v.toNatClampNeg x) Q) := xe_P_iast (by decide +kernel)
theorem xs_119_110 : xe_P d 119 110 ls (.ref a :: st) h Q = xe_P d 119 111 ls (.ref a :: .ref a :: st) h Q := xe_P_ar (ins := .dup) (len := 1) (by decide +kernel) rfl
theorem xs_119_110i : xe_P d 119 110 ls (.int x :: st) h Q = xe_P d 119 111 ls (.int x :: .int x :: st) h Q := xe_P_ar (ins := .dup) (len := 1) (by decide +kernel) rfl
theorem xs_119_111 : xe_P d 119 111 ls st h Q = xe_P d 119 112 ls (.int 1 :: st) h Q := xe_P_ar (ins := .iconst 1) (len := 1) (by decide +kernel) rfl
theorem xs_119_112 : xe_P d 119 112 ls st h Q = xe_P d 119 114 ls (.int 108 :: st) h Q := xe_P_ar (ins := .bipush 108) (len := 2) (by decide +kernel) rfl
theorem xs_119_114 : xe_P d 119 114 ls (.int x :: .int v :: .ref a :: st) h Q = ((xe_ob h a 8 ∧ xe_ix h a v) ∧ xe_P d 119 115 ls st (xe_sI h a v.toNatClampNeg x) Q) := xe_P_iast (by decide +kernel)
theorem xs_119_115 : xe_P d 119 115 ls (.ref a :: st) h Q = xe_P d 119 116 ls (.ref a :: .ref a :: st) h Q := xe_P_ar (ins := .dup) (len := 1) (by decide +kernel) rfl
theorem xs_119_115i : xe_P d 119 115 ls (.int x :: st) h Q = xe_P d 119 116 ls (.int x :: .int x :: st) h Q := xe_P_ar (ins := .dup) (len := 1) (by decide +kernel) rfl
theorem xs_119_116 : xe_P d 119 116 ls st h Q = xe_P d 119 117 ls (.int 2 :: st) h Q := xe_P_ar (ins := .iconst 2) (len := 1) (by decide +kernel) rfl
theorem xs_119_117 : xe_P d 119 117 ls st h Q = xe_P d 119 119 ls (.int 97 :: st) h Q := xe_P_ar (ins := .bipush 97) (len := 2) (by decide +kernel) rfl
theorem xs_119_119 : xe_P d 119 119 ls (.int x :: .int v :: .ref a :: st) h Q = ((xe_ob h a 8 ∧ xe_ix h a v) ∧ xe_P d 119 120 ls st (xe_sI h a v.toNatClampNeg x) Q) := xe_P_iast (by decide +kernel)
theorem xs_119_120 : xe_P d 119 120 ls (.ref a :: st) h Q = xe_P d 119 121 ls (.ref a :: .ref a :: st) h Q := xe_P_ar (ins := .dup) (len := 1) (by decide +kernel) rfl
theorem xs_119_120i : xe_P d 119 120 ls (.int x :: st) h Q = xe_P d 119 121 ls (.int x :: .int x :: st) h Q := xe_P_ar (ins := .dup) (len := 1) (by decide +kernel) rfl
theorem xs_119_121 : xe_P d 119 121 ls st h Q = xe_P d 119 122 ls (.int 3 :: st) h Q := xe_P_ar (ins := .iconst 3) (len := 1) (by decide +kernel) rfl
theorem xs_119_122 : xe_P d 119 122 ls st h Q = xe_P d 119 124 ls (.int 99 :: st) h Q := xe_P_ar (ins := .bipush 99) (len := 2) (by decide +kernel) rfl
theorem xs_119_124 : xe_P d 119 124 ls (.int x :: .int v :: .ref a :: st) h Q = ((xe_ob h a 8 ∧ xe_ix h a v) ∧ xe_P d 119 125 ls st (xe_sI h a v.toNatClampNeg x) Q) := xe_P_iast (by decide +kernel)
theorem xs_119_125 : xe_P d 119 125 ls (.ref a :: st) h Q = xe_P d 119 126 ls (.ref a :: .ref a :: st) h Q := xe_P_ar (ins := .dup) (len := 1) (by decide +kernel) rfl
theorem xs_119_125i : xe_P d 119 125 ls (.int x :: st) h Q = xe_P d 119 126 ls (.int x :: .int x :: st) h Q := xe_P_ar (ins := .dup) (len := 1) (by decide +kernel) rfl
theorem xs_119_126 : xe_P d 119 126 ls st h Q = xe_P d 119 127 ls (.int 4 :: st) h Q := xe_P_ar (ins := .iconst 4) (len := 1) (by decide +kernel) rfl
theorem xs_119_127 : xe_P d 119 127 ls st h Q = xe_P d 119 129 ls (.int 101 :: st) h Q := xe_P_ar (ins := .bipush 101) (len := 2) (by decide +kernel) rfl
theorem xs_119_129 : xe_P d 119 129 ls (.int x :: .int v :: .ref a :: st) h Q = ((xe_ob h a 8 ∧ xe_ix h a v) ∧ xe_P d 119 130 ls st (xe_sI h a v.toNatClampNeg x) Q) := xe_P_iast (by decide +kernel)
theorem xs_119_130 : xe_P d 119 130 ls (.ref a :: st) h Q = xe_P d 119 131 ls (.ref a :: .ref a :: st) h Q := xe_P_ar (ins := .dup) (len := 1) (by decide +kernel) rfl
theorem xs_119_130i : xe_P d 119 130 ls (.int x :: st) h Q = xe_P d 119 131 ls (.int x :: .int x :: st) h Q := xe_P_ar (ins := .dup) (len := 1) (by decide +kernel) rfl
theorem xs_119_131 : xe_P d 119 131 ls st h Q = xe_P d 119 132 ls (.int 5 :: st) h Q := xe_P_ar (ins := .iconst 5) (len := 1) (by decide +kernel) rfl
theorem xs_119_132 : xe_P d 119 132 ls st h Q = xe_P d 119 134 ls (.int 115 :: st) h Q := xe_P_ar (ins := .bipush 115) (len := 2) (by decide +kernel) rfl
theorem xs_119_134 : xe_P d 119 134 ls (.int x :: .int v :: .ref a :: st) h Q = ((xe_ob h a 8 ∧ xe_ix h a v) ∧ xe_P d 119 135 ls st (xe_sI h a v.toNatClampNeg x) Q) := xe_P_iast (by decide +kernel)
theorem xs_119_135 : xe_P d 119 135 ls (.ref a :: st) h Q = xe_P d 119 136 ls (.ref a :: .ref a :: st) h Q := xe_P_ar (ins := .dup) (len := 1) (by decide +kernel) rfl
theorem xs_119_135i : xe_P d 119 135 ls (.int x :: st) h Q = xe_P d 119 136 ls (.int x :: .int x :: st) h Q := xe_P_ar (ins := .dup) (len := 1) (by decide +kernel) rfl
theorem xs_119_136 : xe_P d 119 136 ls st h Q = xe_P d 119 138 ls (.int 6 :: st) h Q := xe_P_ar (ins := .bipush 6) (len := 2) (by decide +kernel) rfl
theorem xs_119_138 : xe_P d 119 138 ls st h Q = xe_P d 119 140 ls (.int 104 :: st) h Q := xe_P_ar (ins := .bipush 104) (len := 2) (by decide +kernel) rfl
theorem xs_119_140 : xe_P d 119 140 ls (.int x :: .int v :: .ref a :: st) h Q = ((xe_ob h a 8 ∧ xe_ix h a v) ∧ xe_P d 119 141 ls st (xe_sI h a v.toNatClampNeg x) Q) := xe_P_iast (by decide +kernel)
theorem xs_119_141 : xe_P d 119 141 ls (.ref a :: st) h Q = xe_P d 119 142 ls (.ref a :: .ref a :: st) h Q := xe_P_ar (ins := .dup) (len := 1) (by decide +kernel) rfl
theorem xs_119_141i : xe_P d 119 141 ls (.int x :: st) h Q = xe_P d 119 142 ls (.int x :: .int x :: st) h Q := xe_P_ar (ins := .dup) (len := 1) (by decide +kernel) rfl
theorem xs_119_142 : xe_P d 119 142 ls st h Q = xe_P d 119 144 ls (.int 7 :: st) h Q := xe_P_ar (ins := .bipush 7) (len := 2) (by decide +kernel) rfl
theorem xs_119_144 : xe_P d 119 144 ls st h Q = xe_P d 119 146 ls (.int 111 :: st) h Q := xe_P_ar (ins := .bipush 111) (len := 2) (by decide +kernel) rfl
theorem xs_119_146 : xe_P d 119 146 ls (.int x :: .int v :: .ref a :: st) h Q = ((xe_ob h a 8 ∧ xe_ix h a v) ∧ xe_P d 119 147 ls st (xe_sI h a v.toNatClampNeg x) Q) := xe_P_iast (by decide +kernel)
theorem xs_119_147 : xe_P d 119 147 ls (.ref a :: st) h Q = xe_P d 119 148 ls (.ref a :: .ref a :: st) h Q := xe_P_ar (ins := .dup) (len := 1) (by decide +kernel) rfl
theorem xs_119_147i : xe_P d 119 147 ls (.int x :: st) h Q = xe_P d 119 148 ls (.int x :: .int x :: st) h Q := xe_P_ar (ins := .dup) (len := 1) (by decide +kernel) rfl
theorem xs_119_148 : xe_P d 119 148 ls st h Q = xe_P d 119 150 ls (.int 8 :: st) h Q := xe_P_ar (ins := .bipush 8) (len := 2) (by decide +kernel) rfl
theorem xs_119_150 : xe_P d 119 150 ls st h Q = xe_P d 119 152 ls (.int 108 :: st) h Q := xe_P_ar (ins := .bipush 108) (len := 2) (by decide +kernel) rfl
theorem xs_119_152 : xe_P d 119 152 ls (.int x :: .int v :: .ref a :: st) h Q = ((xe_ob h a 8 ∧ xe_ix h a v) ∧ xe_P d 119 153 ls st (xe_sI h a v.toNatClampNeg x) Q) := xe_P_iast (by decide +kernel)
theorem xs_119_153 : xe_P d 119 153 ls (.ref a :: st) h Q = xe_P d 119 154 ls (.ref a :: .ref a :: st) h Q := xe_P_ar (ins := .dup) (len := 1) (by decide +kernel) rfl
theorem xs_119_153i : xe_P d 119 153 ls (.int x :: st) h Q = xe_P d 119 154 ls (.int x :: .int x :: st) h Q := xe_P_ar (ins := .dup) (len := 1) (by decide +kernel) rfl
theorem xs_119_154 : xe_P d 119 154 ls st h Q = xe_P d 119 156 ls (.int 9 :: st) h Q := xe_P_ar (ins := .bipush 9) (len := 2) (by decide +kernel) rfl
theorem xs_119_156 : xe_P d 119 156 ls st h Q = xe_P d 119 158 ls (.int 100 :: st) h Q := xe_P_ar (ins := .bipush 100) (len := 2) (by decide +kernel) rfl
theorem xs_119_158 : xe_P d 119 158 ls (.int x :: .int v :: .ref a :: st) h Q = ((xe_ob h a 8 ∧ xe_ix h a v) ∧ xe_P d 119 159 ls st (xe_sI h a v.toNatClampNeg x) Q) := xe_P_iast (by decide +kernel)
theorem xs_119_159 : xe_P d 119 159 ls (.ref a :: st) h Q = xe_P d 119 160 ls (.ref a :: .ref a :: st) h Q := xe_P_ar (ins := .dup) (len := 1) (by decide +kernel) rfl
theorem xs_119_159i : xe_P d 119 159 ls (.int x :: st) h Q = xe_P d 119 160 ls (.int x :: .int x :: st) h Q := xe_P_ar (ins := .dup) (len := 1) (by decide +kernel) rfl
theorem xs_119_160 : xe_P d 119 160 ls st h Q = xe_P d 119 162 ls (.int 10 :: st) h Q := xe_P_ar (ins := .bipush 10) (len := 2) (by decide +kernel) rfl
theorem xs_119_162 : xe_P d 119 162 ls st h Q = xe_P d 119 164 ls (.int 108 :: st) h Q := xe_P_ar (ins := .bipush 108) (len := 2) (by decide +kernel) rfl
theorem xs_119_164 : xe_P d 119 164 ls (.int x :: .int v :: .ref a :: st) h Q = ((xe_ob h a 8 ∧ xe_ix h a v) ∧ xe_P d 119 165 ls st (xe_sI h a v.toNatClampNeg x) Q) := xe_P_iast (by decide +kernel)
theorem xs_119_165 : xe_P d 119 165 ls (.ref a :: st) h Q = xe_P d 119 166 ls (.ref a :: .ref a :: st) h Q := xe_P_ar (ins := .dup) (len := 1) (by decide +kernel) rfl
theorem xs_119_165i : xe_P d 119 165 ls (.int x :: st) h Q = xe_P d 119 166 ls (.int x :: .int x :: st) h Q := xe_P_ar (ins := .dup) (len := 1) (by decide +kernel) rfl
theorem xs_119_166 : xe_P d 119 166 ls st h Q = xe_P d 119 168 ls (.int 11 :: st) h Q := xe_P_ar (ins := .bipush 11) (len := 2) (by decide +kernel) rfl
theorem xs_119_168 : xe_P d 119 168 ls st h Q = xe_P d 119 170 ls (.int 97 :: st) h Q := xe_P_ar (ins := .bipush 97) (len := 2) (by decide +kernel) rfl
theorem xs_119_170 : xe_P d 119 170 ls (.int x :: .int v :: .ref a :: st) h Q = ((xe_ob h a 8 ∧ xe_ix h a v) ∧ xe_P d 119 171 ls st (xe_sI h a v.toNatClampNeg x) Q) := xe_P_iast (by decide +kernel)
theorem xs_119_171 : xe_P d 119 171 ls (.ref a :: st) h Q = xe_P d 119 172 ls (.ref a :: .ref a :: st) h Q := xe_P_ar (ins := .dup) (len := 1) (by decide +kernel) rfl
theorem xs_119_171i : xe_P d 119 171 ls (.int x :: st) h Q = xe_P d 119 172 ls (.int x :: .int x :: st) h Q := xe_P_ar (ins := .dup) (len := 1) (by decide +kernel) rfl
theorem xs_119_172 : xe_P d 119 172 ls st h Q = xe_P d 119 174 ls (.int 12 :: st) h Q := xe_P_ar (ins := .bipush 12) (len := 2) (by decide +kernel) rfl
theorem xs_119_174 : xe_P d 119 174 ls st h Q = xe_P d 119 176 ls (.int 119 :: st) h Q := xe_P_ar (ins := .bipush 119) (len := 2) (by decide +kernel) rfl
theorem xs_119_176 : xe_P d 119 176 ls (.int x :: .int v :: .ref a :: st) h Q = ((xe_ob h a 8 ∧ xe_ix h a v) ∧ xe_P d 119 177 ls st (xe_sI h a v.toNatClampNeg x) Q) := xe_P_iast (by decide +kernel)
theorem xs_119_177 : xe_P d 119 177 ls (.ref a :: st) h Q = xe_P d 119 178 ls (.ref a :: .ref a :: st) h Q := xe_P_ar (ins := .dup) (len := 1) (by decide +kernel) rfl
theorem xs_119_177i : xe_P d 119 177 ls (.int x :: st) h Q = xe_P d 119 178 ls (.int x :: .int x :: st) h Q := xe_P_ar (ins := .dup) (len := 1) (by decide +kernel) rfl
theorem xs_119_178 : xe_P d 119 178 ls st h Q = xe_P d 119 180 ls (.int 13 :: st) h Q := xe_P_ar (ins := .bipush 13) (len := 2) (by decide +kernel) rfl
theorem xs_119_180 : xe_P d 119 180 ls st h Q = xe_P d 119 182 ls (.int 98 :: st) h Q := xe_P_ar (ins := .bipush 98) (len := 2) (by decide +kernel) rfl
theorem xs_119_182 : xe_P d 119 182 ls (.int x :: .int v :: .ref a :: st) h Q = ((xe_ob h a 8 ∧ xe_ix h a v) ∧ xe_P d 119 183 ls st (xe_sI h a v.toNatClampNeg x) Q) := xe_P_iast (by decide +kernel)
theorem xs_119_183 : xe_P d 119 183 ls (.ref a :: st) h Q = xe_P d 119 184 ls (.ref a :: .ref a :: st) h Q := xe_P_ar (ins := .dup) (len := 1) (by decide +kernel) rfl
theorem xs_119_183i : xe_P d 119 183 ls (.int x :: st) h Q = xe_P d 119 184 ls (.int x :: .int x :: st) h Q := xe_P_ar (ins := .dup) (len := 1) (by decide +kernel) rfl
theorem xs_119_184 : xe_P d 119 184 ls st h Q = xe_P d 119 186 ls (.int 14 :: st) h Q := xe_P_ar (ins := .bipush 14) (len := 2) (by decide +kernel) rfl
theorem xs_119_186 : xe_P d 119 186 ls st h Q = xe_P d 119 188 ls (.int 114 :: st) h Q := xe_P_ar (ins := .bipush 114) (len := 2) (by decide +kernel) rfl
theorem xs_119_188 : xe_P d 119 188 ls (.int x :: .int v :: .ref a :: st) h Q = ((xe_ob h a 8 ∧ xe_ix h a v) ∧ xe_P d 119 189 ls st (xe_sI h a v.toNatClampNeg x) Q) := xe_P_iast (by decide +kernel)
theorem xs_119_189 : xe_P d 119 189 ls (.ref a :: st) h Q = xe_P d 119 190 ls (.ref a :: .ref a :: st) h Q := xe_P_ar (ins := .dup) (len := 1) (by decide +kernel) rfl
theorem xs_119_189i : xe_P d 119 189 ls (.int x :: st) h Q = xe_P d 119 190 ls (.int x :: .int x :: st) h Q := xe_P_ar (ins := .dup) (len := 1) (by decide +kernel) rfl
theorem xs_119_190 : xe_P d 119 190 ls st h Q = xe_P d 119 192 ls (.int 15 :: st) h Q := xe_P_ar (ins := .bipush 15) (len := 2) (by decide +kernel) rfl
theorem xs_119_192 : xe_P d 119 192 ls st h Q = xe_P d 119 194 ls (.int 105 :: st) h Q := xe_P_ar (ins := .bipush 105) (len := 2) (by decide +kernel) rfl
theorem xs_119_194 : xe_P d 119 194 ls (.int x :: .int v :: .ref a :: st) h Q = ((xe_ob h a 8 ∧ xe_ix h a v) ∧ xe_P d 119 195 ls st (xe_sI h a v.toNatClampNeg x) Q) := xe_P_iast (by decide +kernel)
theorem xs_119_195 : xe_P d 119 195 ls (.ref a :: st) h Q = xe_P d 119 196 ls (.ref a :: .ref a :: st) h Q := xe_P_ar (ins := .dup) (len := 1) (by decide +kernel) rfl
theorem xs_119_195i : xe_P d 119 195 ls (.int x :: st) h Q = xe_P d 119 196 ls (.int x :: .int x :: st) h Q := xe_P_ar (ins := .dup) (len := 1) (by decide +kernel) rfl
theorem xs_119_196 : xe_P d 119 196 ls st h Q = xe_P d 119 198 ls (.int 16 :: st) h Q := xe_P_ar (ins := .bipush 16) (len := 2) (by decide +kernel) rfl
theorem xs_119_198 : xe_P d 119 198 ls st h Q = xe_P d 119 200 ls (.int 100 :: st) h Q := xe_P_ar (ins := .bipush 100) (len := 2) (by decide +kernel) rfl
theorem xs_119_200 : xe_P d 119 200 ls (.int x :: .int v :: .ref a :: st) h Q = ((xe_ob h a 8 ∧ xe_ix h a v) ∧ xe_P d 119 201 ls st (xe_sI h a v.toNatClampNeg x) Q) := xe_P_iast (by decide +kernel)
theorem xs_119_201 : xe_P d 119 201 ls (.ref a :: st) h Q = xe_P d 119 202 ls (.ref a :: .ref a :: st) h Q := xe_P_ar (ins := .dup) (len := 1) (by decide +kernel) rfl
theorem xs_119_201i : xe_P d 119 201 ls (.int x :: st) h Q = xe_P d 119 202 ls (.int x :: .int x :: st) h Q := xe_P_ar (ins := .dup) (len := 1) (by decide +kernel) rfl
theorem xs_119_202 : xe_P d 119 202 ls st h Q = xe_P d 119 204 ls (.int 17 :: st) h Q := xe_P_ar (ins := .bipush 17) (len := 2) (by decide +kernel) rfl
theorem xs_119_204 : xe_P d 119 204 ls st h Q = xe_P d 119 206 ls (.int 103 :: st) h Q := xe_P_ar (ins := .bipush 103) (len := 2) (by decide +kernel) rfl
theorem xs_119_206 : xe_P d 119 206 ls (.int x :: .int v :: .ref a :: st) h Q = ((xe_ob h a 8 ∧ xe_ix h a v) ∧ xe_P d 119 207 ls st (xe_sI h a v.toNatClampNeg x) Q) := xe_P_iast (by decide +kernel)
theorem xs_119_207 : xe_P d 119 207 ls (.ref a :: st) h Q = xe_P d 119 208 ls (.ref a :: .ref a :: st) h Q := xe_P_ar (ins := .dup) (len := 1) (by decide +kernel) rfl
theorem xs_119_207i : xe_P d 119 207 ls (.int x :: st) h Q = xe_P d 119 208 ls (.int x :: .int x :: st) h Q := xe_P_ar (ins := .dup) (len := 1) (by decide +kernel) rfl
theorem xs_119_208 : xe_P d 119 208 ls st h Q = xe_P d 119 210 ls (.int 18 :: st) h Q := xe_P_ar (ins := .bipush 18) (len := 2) (by decide +kernel) rfl
theorem xs_119_210 : xe_P d 119 210 ls st h Q = xe_P d 119 212 ls (.int 101 :: st) h Q := xe_P_ar (ins := .bipush 101) (len := 2) (by decide +kernel) rfl
theorem xs_119_212 : xe_P d 119 212 ls (.int x :: .int v :: .ref a :: st) h Q = ((xe_ob h a 8 ∧ xe_ix h a v) ∧ xe_P d 119 213 ls st (xe_sI h a v.toNatClampNeg x) Q) := xe_P_iast (by decide +kernel)
theorem xs_119_213 : xe_P d 119 213 ls (.ref a :: st) h Q = xe_P d 119 214 ls (.ref a :: .ref a :: st) h Q := xe_P_ar (ins := .dup) (len := 1) (by decide +kernel) rfl
theorem xs_119_213i : xe_P d 119 213 ls (.int x :: st) h Q = xe_P d 119 214 ls (.int x :: .int x :: st) h Q := xe_P_ar (ins := .dup) (len := 1) (by decide +kernel) rfl
theorem xs_119_214 : xe_P d 119 214 ls st h Q = xe_P d 119 216 ls (.int 19 :: st) h Q := xe_P_ar (ins := .bipush 19) (len := 2) (by decide +kernel) rfl
theorem xs_119_216 : xe_P d 119 216 ls st h Q = xe_P d 119 218 ls (.int 99 :: st) h Q := xe_P_ar (ins := .bipush 99) (len := 2) (by decide +kernel) rfl
theorem xs_119_218 : xe_P d 119 218 ls (.int x :: .int v :: .ref a :: st) h Q = ((xe_ob h a 8 ∧ xe_ix h a v) ∧ xe_P d 119 219 ls st (xe_sI h a v.toNatClampNeg x) Q) := xe_P_iast (by decide +kernel)
theorem xs_119_219 : xe_P d 119 219 ls (.ref a :: st) h Q = xe_P d 119 220 ls (.ref a :: .ref a :: st) h Q := xe_P_ar (ins := .dup) (len := 1) (by decide +kernel) rfl
theorem xs_119_219i : xe_P d 119 219 ls (.int x :: st) h Q = xe_P d 119 220 ls (.int x :: .int x :: st) h Q := xe_P_ar (ins := .dup) (len := 1) (by decide +kernel) rfl
theorem xs_119_220 : xe_P d 119 220 ls st h Q = xe_P d 119 222 ls (.int 20 :: st) h Q := xe_P_ar (ins := .bipush 20) (len := 2) (by decide +kernel) rfl
theorem xs_119_222 : xe_P d 119 222 ls st h Q = xe_P d 119 224 ls (.int 104 :: st) h Q := xe_P_ar (ins := .bipush 104) (len := 2) (by decide +kernel) rfl
theorem xs_119_224 : xe_P d 119 224 ls (.int x :: .int v :: .ref a :: st) h Q = ((xe_ob h a 8 ∧ xe_ix h a v) ∧ xe_P d 119 225 ls st (xe_sI h a v.toNatClampNeg x) Q) := xe_P_iast (by decide +kernel)
theorem xs_119_225 : xe_P d 119 225 ls (.ref a :: st) h Q = xe_P d 119 226 ls (.ref a :: .ref a :: st) h Q := xe_P_ar (ins := .dup) (len := 1) (by decide +kernel) rfl
theorem xs_119_225i : xe_P d 119 225 ls (.int x :: st) h Q = xe_P d 119 226 ls (.int x :: .int x :: st) h Q := xe_P_ar (ins := .dup) (len := 1) (by decide +kernel) rfl
theorem xs_119_226 : xe_P d 119 226 ls st h Q = xe_P d 119 228 ls (.int 21 :: st) h Q := xe_P_ar (ins := .bipush 21) (len := 2) (by decide +kernel) rfl
theorem xs_119_228 : xe_P d 119 228 ls st h Q = xe_P d 119 230 ls (.int 97 :: st) h Q := xe_P_ar (ins := .bipush 97) (len := 2) (by decide +kernel) rfl
theorem xs_119_230 : xe_P d 119 230 ls (.int x :: .int v :: .ref a :: st) h Q = ((xe_ob h a 8 ∧ xe_ix h a v) ∧ xe_P d 119 231 ls st (xe_sI h a v.toNatClampNeg x) Q) := xe_P_iast (by decide +kernel)
theorem xs_119_231 : xe_P d 119 231 ls (.ref a :: st) h Q = xe_P d 119 232 ls (.ref a :: .ref a :: st) h Q := xe_P_ar (ins := .dup) (len := 1) (by decide +kernel) rfl
theorem xs_119_231i : xe_P d 119 231 ls (.int x :: st) h Q = xe_P d 119 232 ls (.int x :: .int x :: st) h Q := xe_P_ar (ins := .dup) (len := 1) (by decide +kernel) rfl
theorem xs_119_232 : xe_P d 119 232 ls st h Q = xe_P d 119 234 ls (.int 22 :: st) h Q := xe_P_ar (ins := .bipush 22) (len := 2) (by decide +kernel) rfl
theorem xs_119_234 : xe_P d 119 234 ls st h Q = xe_P d 119 236 ls (.int 105 :: st) h Q := xe_P_ar (ins := .bipush 105) (len := 2) (by decide +kernel) rfl
theorem xs_119_236 : xe_P d 119 236 ls (.int x :: .int v :: .ref a :: st) h Q = ((xe_ob h a 8 ∧ xe_ix h a v) ∧ xe_P d 119 237 ls st (xe_sI h a v.toNatClampNeg x) Q) := xe_P_iast (by decide +kernel)
theorem xs_119_237 : xe_P d 119 237 ls (.ref a :: st) h Q = xe_P d 119 238 ls (.ref a :: .ref a :: st) h Q := xe_P_ar (ins := .dup) (len := 1) (by decide +kernel) rfl
theorem xs_119_237i : xe_P d 119 237 ls (.int x :: st) h Q = xe_P d 119 238 ls (.int x :: .int x :: st) h Q := xe_P_ar (ins := .dup) (len := 1) (by decide +kernel) rfl
theorem xs_119_238 : xe_P d 119 238 ls st h Q = xe_P d 119 240 ls (.int 23 :: st) h Q := xe_P_ar (ins := .bipush 23) (len := 2) (by decide +kernel) rfl
theorem xs_119_240 : xe_P d 119 240 ls st h Q = xe_P d 119 242 ls (.int 110 :: st) h Q := xe_P_ar (ins := .bipush 110) (len := 2) (by decide +kernel) rfl
theorem xs_119_242 : xe_P d 119 242 ls (.int x :: .int v :: .ref a :: st) h Q = ((xe_ob h a 8 ∧ xe_ix h a v) ∧ xe_P d 119 243 ls st (xe_sI h a v.toNatClampNeg x) Q) := xe_P_iast (by decide +kernel)
theorem xs_119_243 : xe_P d 119 243 ls (.ref a :: st) h Q = xe_P d 119 244 ls (.ref a :: .ref a :: st) h Q := xe_P_ar (ins := .dup) (len := 1) (by decide +kernel) rfl
theorem xs_119_243i : xe_P d 119 243 ls (.int x :: st) h Q = xe_P d 119 244 ls (.int x :: .int x :: st) h Q := xe_P_ar (ins := .dup) (len := 1) (by decide +kernel) rfl
theorem xs_119_244 : xe_P d 119 244 ls st h Q = xe_P d 119 246 ls (.int 24 :: st) h Q := xe_P_ar (ins := .bipush 24) (len := 2) (by decide +kernel) rfl
theorem xs_119_246 : xe_P d 119 246 ls st h Q = xe_P d 119 248 ls (.int 115 :: st) h Q := xe_P_ar (ins := .bipush 115) (len := 2) (by decide +kernel) rfl
theorem xs_119_248 : xe_P d 119 248 ls (.int x :: .int v :: .ref a :: st) h Q = ((xe_ob h a 8 ∧ xe_ix h a v) ∧ xe_P d 119 249 ls st (xe_sI h a v.toNatClampNeg x) Q) := xe_P_iast (by decide +kernel)
theorem xs_119_249 : xe_P d 119 249 ls (.ref a :: st) h Q = xe_P d 119 250 ls (.ref a :: .ref a :: st) h Q := xe_P_ar (ins := .dup) (len := 1) (by decide +kernel) rfl
theorem xs_119_249i : xe_P d 119 249 ls (.int x :: st) h Q = xe_P d 119 250 ls (.int x :: .int x :: st) h Q := xe_P_ar (ins := .dup) (len := 1) (by decide +kernel) rfl
theorem xs_119_250 : xe_P d 119 250 ls st h Q = xe_P d 119 252 ls (.int 25 :: st) h Q := xe_P_ar (ins := .bipush 25) (len := 2) (by decide +kernel) rfl
theorem xs_119_252 : xe_P d 119 252 ls st h Q = xe_P d 119 254 ls (.int 104 :: st) h Q := xe_P_ar (ins := .bipush 104) (len := 2) (by decide +kernel) rfl
theorem xs_119_254 : xe_P d 119 254 ls (.int x :: .int v :: .ref a :: st) h Q = ((xe_ob h a 8 ∧ xe_ix h a v) ∧ xe_P d 119 255 ls st (xe_sI h a v.toNatClampNeg x) Q) := xe_P_iast (by decide +kernel)
theorem xs_119_255 : xe_P d 119 255 ls (.ref a :: st) h Q = xe_P d 119 256 ls (.ref a :: .ref a :: st) h Q := xe_P_ar (ins := .dup) (len := 1) (by decide +kernel) rfl
theorem xs_119_255i : xe_P d 119 255 ls (.int x :: st) h Q = xe_P d 119 256 ls (.int x :: .int x :: st) h Q := xe_P_ar (ins := .dup) (len := 1) (by decide +kernel) rfl
theorem xs_119_256 : xe_P d 119 256 ls st h Q = xe_P d 119 258 ls (.int 26 :: st) h Q := xe_P_ar (ins := .bipush 26) (len := 2) (by decide +kernel) rfl
theorem xs_119_258 : xe_P d 119 258 ls st h Q = xe_P d 119 260 ls (.int 117 :: st) h Q := xe_P_ar (ins := .bipush 117) (len := 2) (by decide +kernel) rfl
theorem xs_119_260 : xe_P d 119 260 ls (.int x :: .int v :: .ref a :: st) h Q = ((xe_ob h a 8 ∧ xe_ix h a v) ∧ xe_P d 119 261 ls st (xe_sI h a v.toNatClampNeg x) Q) := xe_P_iast (by decide +kernel)
theorem xs_119_261 : xe_P d 119 261 ls (.ref a :: st) h Q = xe_P d 119 262 ls (.ref a :: .ref a :: st) h Q := xe_P_ar (ins := .dup) (len := 1) (by decide +kernel) rfl
theorem xs_119_261i : xe_P d 119 261 ls (.int x :: st) h Q = xe_P d 119 262 ls (.int x :: .int x :: st) h Q := xe_P_ar (ins := .dup) (len := 1) (by decide +kernel) rfl
theorem xs_119_262 : xe_P d 119 262 ls st h Q = xe_P d 119 264 ls (.int 27 :: st) h Q := xe_P_ar (ins := .bipush 27) (len := 2) (by decide +kernel) rfl
theorem xs_119_264 : xe_P d 119 264 ls st h Q = xe_P d 119 266 ls (.int 116 :: st) h Q := xe_P_ar (ins := .bipush 116) (len := 2) (by decide +kernel) rfl
theorem xs_119_266 : xe_P d 119 266 ls (.int x :: .int v :: .ref a :: st) h Q = ((xe_ob h a 8 ∧ xe_ix h a v) ∧ xe_P d 119 267 ls st (xe_sI h a v.toNatClampNeg x) Q) := xe_P_iast (by decide +kernel)
theorem xs_119_267 : xe_P d 119 267 ls (.ref a :: st) h Q = xe_P d 119 268 ls (.ref a :: .ref a :: st) h Q := xe_P_ar (ins := .dup) (len := 1) (by decide +kernel) rfl
theorem xs_119_267i : xe_P d 119 267 ls (.int x :: st) h Q = xe_P d 119 268 ls (.int x :: .int x :: st) h Q := xe_P_ar (ins := .dup) (len := 1) (by decide +kernel) rfl
theorem xs_119_268 : xe_P d 119 268 ls st h Q = xe_P d 119 270 ls (.int 28 :: st) h Q := xe_P_ar (ins := .bipush 28) (len := 2) (by decide +kernel) rfl
theorem xs_119_270 : xe_P d 119 270 ls st h Q = xe_P d 119 272 ls (.int 111 :: st) h Q := xe_P_ar (ins := .bipush 111) (len := 2) (by decide +kernel) rfl
theorem xs_119_272 : xe_P d 119 272 ls (.int x :: .int v :: .ref a :: st) h Q = ((xe_ob h a 8 ∧ xe_ix h a v) ∧ xe_P d 119 273 ls st (xe_sI h a v.toNatClampNeg x) Q) := xe_P_iast (by decide +kernel)
theorem xs_119_273 : xe_P d 119 273 ls (.ref a :: st) h Q = xe_P d 119 274 ls (.ref a :: .ref a :: st) h Q := xe_P_ar (ins := .dup) (len := 1) (by decide +kernel) rfl
theorem xs_119_273i : xe_P d 119 273 ls (.int x :: st) h Q = xe_P d 119 274 ls (.int x :: .int x :: st) h Q := xe_P_ar (ins := .dup) (len := 1) (by decide +kernel) rfl
theorem xs_119_274 : xe_P d 119 274 ls st h Q = xe_P d 119 276 ls (.int 29 :: st) h Q := xe_P_ar (ins := .bipush 29) (len := 2) (by decide +kernel) rfl
theorem xs_119_276 : xe_P d 119 276 ls st h Q = xe_P d 119 278 ls (.int 110 :: st) h Q := xe_P_ar (ins := .bipush 110) (len := 2) (by decide +kernel) rfl
theorem xs_119_278 : xe_P d 119 278 ls (.int x :: .int v :: .ref a :: st) h Q = ((xe_ob h a 8 ∧ xe_ix h a v) ∧ xe_P d 119 279 ls st (xe_sI h a v.toNatClampNeg x) Q) := xe_P_iast (by decide +kernel)
theorem xs_119_279 : xe_P d 119 279 ls (.ref a :: st) h Q = xe_P d 119 280 ls (.ref a :: .ref a :: st) h Q := xe_P_ar (ins := .dup) (len := 1) (by decide +kernel) rfl
theorem xs_119_279i : xe_P d 119 279 ls (.int x :: st) h Q = xe_P d 119 280 ls (.int x :: .int x :: st) h Q := xe_P_ar (ins := .dup) (len := 1) (by decide +kernel) rfl
theorem xs_119_280 : xe_P d 119 280 ls st h Q = xe_P d 119 282 ls (.int 30 :: st) h Q := xe_P_ar (ins := .bipush 30) (len := 2) (by decide +kernel) rfl
theorem xs_119_282 : xe_P d 119 282 ls st h Q = xe_P d 119 284 ls (.int 101 :: st) h Q := xe_P_ar (ins := .bipush 101) (len := 2) (by decide +kernel) rfl
theorem xs_119_284 : xe_P d 119 284 ls (.int x :: .int v :: .ref a :: st) h Q = ((xe_ob h a 8 ∧ xe_ix h a v) ∧ xe_P d 119 285 ls st (xe_sI h a v.toNatClampNeg x) Q) := xe_P_iast (by decide +kernel)
theorem xs_119_285 : xe_P d 119 285 ls (.ref b :: .ref a :: st) h Q = ((xe_ob h a 7 ∧ b < xe_S) ∧ xe_P d 119 288 ls st (xe_sR h a 21 (some b)) Q) := xe_P_putR (i := 32) (by decide +kernel) (by decide +kernel) (by decide) (by decide +kernel) rfl
theorem xs_119_288 : xe_P d 119 288 [.ref a] st h Q = xe_P d 119 289 [.ref a] (.ref a :: st) h Q := xe_P_lo (ins := .aload_n 0) (len := 1) (by decide +kernel) rfl rfl
theorem xs_119_289 : xe_P d 119 289 ls st h Q = xe_P d 119 291 ls (.int 6 :: st) h Q := xe_P_ar (ins := .bipush 6) (len := 2) (by decide +kernel) rfl
theorem xs_119_291 : xe_P d 119 291 ls (.int v :: st) h Q = ((¬ v < 0 ∧ v.toNatClampNeg ≤ 200000 ∧ xe_n h < xe_S) ∧ xe_P d 119 293 ls (.ref (xe_n h) :: st) (xe_new h 8 v.toNatClampNeg) Q) := xe_P_newa (t := .int) (by decide +kernel) (by decide)
theorem xs_119_293 : xe_P d 119 293 ls (.ref b :: .ref a :: st) h Q = ((xe_ob h a 7 ∧ b < xe_S) ∧ xe_P d 119 296 ls st (xe_sR h a 22 (some b)) Q) := xe_P_putR (i := 35) (by decide +kernel) (by decide +kernel) (by decide) (by decide +kernel) rfl
theorem xs_119_296 : xe_P d 119 296 [.ref a] st h Q = xe_P d 119 297 [.ref a] (.ref a :: st) h Q := xe_P_lo (ins := .aload_n 0) (len := 1) (by decide +kernel) rfl rfl
theorem xs_119_297 : xe_P d 119 297 ls st h Q = xe_P d 119 299 ls (.int 102400 :: st) h Q := xe_P_ldc (j := 38) (by decide +kernel) (by decide +kernel)
theorem xs_119_299 : xe_P d 119 299 ls (.int v :: st) h Q = ((¬ v < 0 ∧ v.toNatClampNeg ≤ 200000 ∧ xe_n h < xe_S) ∧ xe_P d 119 301 ls (.ref (xe_n h) :: st) (xe_new h 8 v.toNatClampNeg) Q) := xe_P_newa (t := .int) (by decide +kernel) (by decide)
theorem xs_119_301 : xe_P d 119 301 ls (.ref b :: .ref a :: st) h Q = ((xe_ob h a 7 ∧ b < xe_S) ∧ xe_P d 119 304 ls st (xe_sR h a 23 (some b)) Q) := xe_P_putR (i := 39) (by decide +kernel) (by decide +kernel) (by decide) (by decide +kernel) rfl
theorem xs_119_304 : xe_P d 119 304 [.ref a] st h Q = xe_P d 119 305 [.ref a] (.ref a :: st) h Q := xe_P_lo (ins := .aload_n 0) (len := 1) (by decide +kernel) rfl rfl
theorem xs_119_305 : xe_P d 119 305 ls st h Q = xe_P d 119 307 ls (.int 102400 :: st) h Q := xe_P_ldc (j := 38) (by decide +kernel) (by decide +kernel)
theorem xs_119_307 : xe_P d 119 307 ls (.int v :: st) h Q = ((¬ v < 0 ∧ v.toNatClampNeg ≤ 200000 ∧ xe_n h < xe_S) ∧ xe_P d 119 309 ls (.ref (xe_n h) :: st) (xe_new h 8 v.toNatClampNeg) Q) := xe_P_newa (t := .int) (by decide +kernel) (by decide)
theorem xs_119_309 : xe_P d 119 309 ls (.ref b :: .ref a :: st) h Q = ((xe_ob h a 7 ∧ b < xe_S) ∧ xe_P d 119 312 ls st (xe_sR h a 24 (some b)) Q) := xe_P_putR (i := 42) (by decide +kernel) (by decide +kernel) (by decide) (by decide +kernel) rfl
theorem xs_119_312 : xe_P d 119 312 [.ref a] st h Q = xe_P d 119 313 [.ref a] (.ref a :: st) h Q := xe_P_lo (ins := .aload_n 0) (len := 1) (by decide +kernel) rfl rfl
theorem xs_119_313 : xe_P d 119 313 ls st h Q = xe_P d 119 316 ls (.int 1000 :: st) h Q := xe_P_ar (ins := .sipush 1000) (len := 3) (by decide +kernel) rfl
theorem xs_119_316 : xe_P d 119 316 ls (.int v :: st) h Q = ((¬ v < 0 ∧ v.toNatClampNeg ≤ 200000 ∧ xe_n h < xe_S) ∧ xe_P d 119 318 ls (.ref (xe_n h) :: st) (xe_new h 8 v.toNatClampNeg) Q) := xe_P_newa (t := .int) (by decide +kernel) (by decide)
theorem xs_119_318 : xe_P d 119 318 ls (.ref b :: .ref a :: st) h Q = ((xe_ob h a 7 ∧ b < xe_S) ∧ xe_P d 119 321 ls st (xe_sR h a 26 (some b)) Q) := xe_P_putR (i := 45) (by decide +kernel) (by decide +kernel) (by decide) (by decide +kernel) rfl
theorem xs_119_321 : xe_P d 119 321 [.ref a] st h Q = xe_P d 119 322 [.ref a] (.ref a :: st) h Q := xe_P_lo (ins := .aload_n 0) (len := 1) (by decide +kernel) rfl rfl
theorem xs_119_322 : xe_P d 119 322 ls st h Q = xe_P d 119 324 ls (.int 10 :: st) h Q := xe_P_ar (ins := .bipush 10) (len := 2) (by decide +kernel) rfl
theorem xs_119_324 : xe_P d 119 324 ls (.int v :: st) h Q = ((¬ v < 0 ∧ v.toNatClampNeg ≤ 200000 ∧ xe_n h < xe_S) ∧ xe_P d 119 326 ls (.ref (xe_n h) :: st) (xe_new h 8 v.toNatClampNeg) Q) := xe_P_newa (t := .int) (by decide +kernel) (by decide)
theorem xs_119_326 : xe_P d 119 326 ls (.ref b :: .ref a :: st) h Q = ((xe_ob h a 7 ∧ b < xe_S) ∧ xe_P d 119 329 ls st (xe_sR h a 27 (some b)) Q) := xe_P_putR (i := 48) (by decide +kernel) (by decide +kernel) (by decide) (by decide +kernel) rfl
theorem xs_119_329 : xe_P d 119 329 [.ref a] st h Q = xe_P d 119 330 [.ref a] (.ref a :: st) h Q := xe_P_lo (ins := .aload_n 0) (len := 1) (by decide +kernel) rfl rfl
theorem xs_119_330 : xe_P d 119 330 ls st h Q = xe_P d 119 332 ls (.int 10 :: st) h Q := xe_P_ar (ins := .bipush 10) (len := 2) (by decide +kernel) rfl
theorem xs_119_332 : xe_P d 119 332 ls (.int v :: st) h Q = ((¬ v < 0 ∧ v.toNatClampNeg ≤ 200000 ∧ xe_n h < xe_S) ∧ xe_P d 119 334 ls (.ref (xe_n h) :: st) (xe_new h 8 v.toNatClampNeg) Q) := xe_P_newa (t := .int) (by decide +kernel) (by decide)
theorem xs_119_334 : xe_P d 119 334 ls (.ref b :: .ref a :: st) h Q = ((xe_ob h a 7 ∧ b < xe_S) ∧ xe_P d 119 337 ls st (xe_sR h a 28 (some b)) Q) := xe_P_putR (i := 51) (by decide +kernel) (by decide +kernel) (by decide) (by decide +kernel) rfl
theorem xs_119_337 : xe_P d 119 337 [.ref a] st h Q = xe_P d 119 338 [.ref a] (.ref a :: st) h Q := xe_P_lo (ins := .aload_n 0) (len := 1) (by decide +kernel) rfl rfl
theorem xs_119_338 : xe_P d 119 338 ls st h Q = xe_P d 119 340 ls (.int 10 :: st) h Q := xe_P_ar (ins := .bipush 10) (len := 2) (by decide +kernel) rfl
theorem xs_119_340 : xe_P d 119 340 ls (.int v :: st) h Q = ((¬ v < 0 ∧ v.toNatClampNeg ≤ 200000 ∧ xe_n h < xe_S) ∧ xe_P d 119 342 ls (.ref (xe_n h) :: st) (xe_new h 8 v.toNatClampNeg) Q) := xe_P_newa (t := .int) (by decide +kernel) (by decide)
theorem xs_119_342 : xe_P d 119 342 ls (.ref b :: .ref a :: st) h Q = ((xe_ob h a 7 ∧ b < xe_S) ∧ xe_P d 119 345 ls st (xe_sR h a 29 (some b)) Q) := xe_P_putR (i := 54) (by decide +kernel) (by decide +kernel) (by decide) (by decide +kernel) rfl
theorem xs_119_345 : xe_P d 119 345 [.ref a] st h Q = xe_P d 119 346 [.ref a] (.ref a :: st) h Q := xe_P_lo (ins := .aload_n 0) (len := 1) (by decide +kernel) rfl rfl
theorem xs_119_346 : xe_P d 119 346 ls st h Q = xe_P d 119 348 ls (.int 10 :: st) h Q := xe_P_ar (ins := .bipush 10) (len := 2) (by decide +kernel) rfl
theorem xs_119_348 : xe_P d 119 348 ls (.int v :: st) h Q = ((¬ v < 0 ∧ v.toNatClampNeg ≤ 200000 ∧ xe_n h < xe_S) ∧ xe_P d 119 350 ls (.ref (xe_n h) :: st) (xe_new h 8 v.toNatClampNeg) Q) := xe_P_newa (t := .int) (by decide +kernel) (by decide)
theorem xs_119_350 : xe_P d 119 350 ls (.ref b :: .ref a :: st) h Q = ((xe_ob h a 7 ∧ b < xe_S) ∧ xe_P d 119 353 ls st (xe_sR h a 30 (some b)) Q) := xe_P_putR (i := 57) (by decide +kernel) (by decide +kernel) (by decide) (by decide +kernel) rfl
theorem xs_119_353 : xe_P d 119 353 [.ref a] st h Q = xe_P d 119 354 [.ref a] (.ref a :: st) h Q := xe_P_lo (ins := .aload_n 0) (len := 1) (by decide +kernel) rfl rfl
theorem xs_119_354 : xe_P d 119 354 ls st h Q = xe_P d 119 356 ls (.int 18 :: st) h Q := xe_P_ar (ins := .bipush 18) (len := 2) (by decide +kernel) rfl
theorem xs_119_356 : xe_P d 119 356 ls (.int v :: st) h Q = ((¬ v < 0 ∧ v.toNatClampNeg ≤ 200000 ∧ xe_n h < xe_S) ∧ xe_P d 119 358 ls (.ref (xe_n h) :: st) (xe_new h 8 v.toNatClampNeg) Q) := xe_P_newa (t := .int) (by decide +kernel) (by decide)
theorem xs_119_358 : xe_P d 119 358 ls (.ref b :: .ref a :: st) h Q = ((xe_ob h a 7 ∧ b < xe_S) ∧ xe_P d 119 361 ls st (xe_sR h a 31 (some b)) Q) := xe_P_putR (i := 60) (by decide +kernel) (by decide +kernel) (by decide) (by decide +kernel) rfl
theorem xs_119_361 : xe_P d 119 361 [.ref a] st h Q = xe_P d 119 362 [.ref a] (.ref a :: st) h Q := xe_P_lo (ins := .aload_n 0) (len := 1) (by decide +kernel) rfl rfl
theorem xs_119_362 : xe_P d 119 362 ls st h Q = xe_P d 119 364 ls (.int 6 :: st) h Q := xe_P_ar (ins := .bipush 6) (len := 2) (by decide +kernel) rfl
theorem xs_119_364 : xe_P d 119 364 ls (.int v :: st) h Q = ((¬ v < 0 ∧ v.toNatClampNeg ≤ 200000 ∧ xe_n h < xe_S) ∧ xe_P d 119 366 ls (.ref (xe_n h) :: st) (xe_new h 8 v.toNatClampNeg) Q) := xe_P_newa (t := .int) (by decide +kernel) (by decide)
theorem xs_119_366 : xe_P d 119 366 ls (.ref b :: .ref a :: st) h Q = ((xe_ob h a 7 ∧ b < xe_S) ∧ xe_P d 119 369 ls st (xe_sR h a 33 (some b)) Q) := xe_P_putR (i := 63) (by decide +kernel) (by decide +kernel) (by decide) (by decide +kernel) rfl
theorem xs_119_369 : xe_P d 119 369 [.ref a] st h Q = xe_P d 119 370 [.ref a] (.ref a :: st) h Q := xe_P_lo (ins := .aload_n 0) (len := 1) (by decide +kernel) rfl rfl
theorem xs_119_370 : xe_P d 119 370 ls st h Q = xe_P d 119 372 ls (.int 70 :: st) h Q := xe_P_ar (ins := .bipush 70) (len := 2) (by decide +kernel) rfl
theorem xs_119_372 : xe_P d 119 372 ls (.int v :: st) h Q = ((¬ v < 0 ∧ v.toNatClampNeg ≤ 200000 ∧ xe_n h < xe_S) ∧ xe_P d 119 374 ls (.ref (xe_n h) :: st) (xe_new h 8 v.toNatClampNeg) Q) := xe_P_newa (t := .int) (by decide +kernel) (by decide)
theorem xs_119_374 : xe_P d 119 374 ls (.ref b :: .ref a :: st) h Q = ((xe_ob h a 7 ∧ b < xe_S) ∧ xe_P d 119 377 ls st (xe_sR h a 34 (some b)) Q) := xe_P_putR (i := 66) (by decide +kernel) (by decide +kernel) (by decide) (by decide +kernel) rfl
theorem xs_119_377 : xe_P d 119 377 [.ref a] st h Q = xe_P d 119 378 [.ref a] (.ref a :: st) h Q := xe_P_lo (ins := .aload_n 0) (len := 1) (by decide +kernel) rfl rfl
theorem xs_119_378 : xe_P d 119 378 ls st h Q = xe_P d 119 380 ls (.int 70 :: st) h Q := xe_P_ar (ins := .bipush 70) (len := 2) (by decide +kernel) rfl
theorem xs_119_380 : xe_P d 119 380 ls (.int v :: st) h Q = ((¬ v < 0 ∧ v.toNatClampNeg ≤ 200000 ∧ xe_n h < xe_S) ∧ xe_P d 119 382 ls (.ref (xe_n h) :: st) (xe_new h 8 v.toNatClampNeg) Q) := xe_P_newa (t := .int) (by decide +kernel) (by decide)
theorem xs_119_382 : xe_P d 119 382 ls (.ref b :: .ref a :: st) h Q = ((xe_ob h a 7 ∧ b < xe_S) ∧ xe_P d 119 385 ls st (xe_sR h a 35 (some b)) Q) := xe_P_putR (i := 69) (by decide +kernel) (by decide +kernel) (by decide) (by decide +kernel) rfl
theorem xs_119_385 : xe_P d 119 385 [.ref a] st h Q = xe_P d 119 386 [.ref a] (.ref a :: st) h Q := xe_P_lo (ins := .aload_n 0) (len := 1) (by decide +kernel) rfl rfl
theorem xs_119_386 : xe_P d 119 386 ls st h Q = xe_P d 119 387 ls (.int 2 :: st) h Q := xe_P_ar (ins := .iconst 2) (len := 1) (by decide +kernel) rfl
theorem xs_119_387 : xe_P d 119 387 ls (.int v :: st) h Q = ((¬ v < 0 ∧ v.toNatClampNeg ≤ 200000 ∧ xe_n h < xe_S) ∧ xe_P d 119 389 ls (.ref (xe_n h) :: st) (xe_new h 11 v.toNatClampNeg) Q) := xe_P_newa (t := .boolean) (by decide +kernel) (by decide)
theorem xs_119_389 : xe_P d 119 389 ls (.ref b :: .ref a :: st) h Q = ((xe_ob h a 7 ∧ b < xe_S) ∧ xe_P d 119 392 ls st (xe_sR h a 36 (some b)) Q) := xe_P_putR (i := 72) (by decide +kernel) (by decide +kernel) (by decide) (by decide +kernel) rfl
theorem xs_119_392 : xe_P d 119 392 [.ref a] st h Q = xe_P d 119 393 [.ref a] (.ref a :: st) h Q := xe_P_lo (ins := .aload_n 0) (len := 1) (by decide +kernel) rfl rfl
theorem xs_119_393 : xe_P d 119 393 ls st h Q = xe_P d 119 394 ls (.int 4 :: st) h Q := xe_P_ar (ins := .iconst 4) (len := 1) (by decide +kernel) rfl
theorem xs_119_394 : xe_P d 119 394 ls (.int v :: st) h Q = ((¬ v < 0 ∧ v.toNatClampNeg ≤ 200000 ∧ xe_n h < xe_S) ∧ xe_P d 119 396 ls (.ref (xe_n h) :: st) (xe_new h 8 v.toNatClampNeg) Q) := xe_P_newa (t := .int) (by decide +kernel) (by decide)
theorem xs_119_396 : xe_P d 119 396 ls (.ref a :: st) h Q = xe_P d 119 397 ls (.ref a :: .ref a :: st) h Q := xe_P_ar (ins := .dup) (len := 1) (by decide +kernel) rfl
theorem xs_119_396i : xe_P d 119 396 ls (.int x :: st) h Q = xe_P d 119 397 ls (.int x :: .int x :: st) h Q := xe_P_ar (ins := .dup) (len := 1) (by decide +kernel) rfl
theorem xs_119_397 : xe_P d 119 397 ls st h Q = xe_P d 119 398 ls (.int 0 :: st) h Q := xe_P_ar (ins := .iconst 0) (len := 1) (by decide +kernel) rfl
theorem xs_119_398 : xe_P d 119 398 ls st h Q = xe_P d 119 400 ls (.int (-4) :: st) h Q := xe_P_ar (ins := .bipush (-4)) (len := 2) (by decide +kernel) rfl
theorem xs_119_400 : xe_P d 119 400 ls (.int x :: .int v :: .ref a :: st) h Q = ((xe_ob h a 8 ∧ xe_ix h a v) ∧ xe_P d 119 401 ls st (xe_sI h a v.toNatClampNeg x) Q) := xe_P_iast (by decide +kernel)
theorem xs_119_401 : xe_P d 119 401 ls (.ref a :: st) h Q = xe_P d 119 402 ls (.ref a :: .ref a :: st) h Q := xe_P_ar (ins := .dup) (len := 1) (by decide +kernel) rfl
theorem xs_119_401i : xe_P d 119 401 ls (.int x :: st) h Q = xe_P d 119 402 ls (.int x :: .int x :: st) h Q := xe_P_ar (ins := .dup) (len := 1) (by decide +kernel) rfl
theorem xs_119_402 : xe_P d 119 402 ls st h Q = xe_P d 119 403 ls (.int 1 :: st) h Q := xe_P_ar (ins := .iconst 1) (len := 1) (by decide +kernel) rfl
theorem xs_119_403 : xe_P d 119 403 ls st h Q = xe_P d 119 405 ls (.int (-4) :: st) h Q := xe_P_ar (ins := .bipush (-4)) (len := 2) (by decide +kernel) rfl
theorem xs_119_405 : xe_P d 119 405 ls (.int x :: .int v :: .ref a :: st) h Q = ((xe_ob h a 8 ∧ xe_ix h a v) ∧ xe_P d 119 406 ls st (xe_sI h a v.toNatClampNeg x) Q) := xe_P_iast (by decide +kernel)
theorem xs_119_406 : xe_P d 119 406 ls (.ref a :: st) h Q = xe_P d 119 407 ls (.ref a :: .ref a :: st) h Q := xe_P_ar (ins := .dup) (len := 1) (by decide +kernel) rfl
theorem xs_119_406i : xe_P d 119 406 ls (.int x :: st) h Q = xe_P d 119 407 ls (.int x :: .int x :: st) h Q := xe_P_ar (ins := .dup) (len := 1) (by decide +kernel) rfl
theorem xs_119_407 : xe_P d 119 407 ls st h Q = xe_P d 119 408 ls (.int 2 :: st) h Q := xe_P_ar (ins := .iconst 2) (len := 1) (by decide +kernel) rfl
theorem xs_119_408 : xe_P d 119 408 ls st h Q = xe_P d 119 410 ls (.int (-4) :: st) h Q := xe_P_ar (ins := .bipush (-4)) (len := 2) (by decide +kernel) rfl
theorem xs_119_410 : xe_P d 119 410 ls (.int x :: .int v :: .ref a :: st) h Q = ((xe_ob h a 8 ∧ xe_ix h a v) ∧ xe_P d 119 411 ls st (xe_sI h a v.toNatClampNeg x) Q) := xe_P_iast (by decide +kernel)
theorem xs_119_411 : xe_P d 119 411 ls (.ref a :: st) h Q = xe_P d 119 412 ls (.ref a :: .ref a :: st) h Q := xe_P_ar (ins := .dup) (len := 1) (by decide +kernel) rfl
theorem xs_119_411i : xe_P d 119 411 ls (.int x :: st) h Q = xe_P d 119 412 ls (.int x :: .int x :: st) h Q := xe_P_ar (ins := .dup) (len := 1) (by decide +kernel) rfl
theorem xs_119_412 : xe_P d 119 412 ls st h Q = xe_P d 119 413 ls (.int 3 :: st) h Q := xe_P_ar (ins := .iconst 3) (len := 1) (by decide +kernel) rfl
theorem xs_119_413 : xe_P d 119 413 ls st h Q = xe_P d 119 415 ls (.int (-4) :: st) h Q := xe_P_ar (ins := .bipush (-4)) (len := 2) (by decide +kernel) rfl
theorem xs_119_415 : xe_P d 119 415 ls (.int x :: .int v :: .ref a :: st) h Q = ((xe_ob h a 8 ∧ xe_ix h a v) ∧ xe_P d 119 416 ls st (xe_sI h a v.toNatClampNeg x) Q) := xe_P_iast (by decide +kernel)
theorem xs_119_416 : xe_P d 119 416 ls (.ref b :: .ref a :: st) h Q = ((xe_ob h a 7 ∧ b < xe_S) ∧ xe_P d 119 419 ls st (xe_sR h a 37 (some b)) Q) := xe_P_putR (i := 76) (by decide +kernel) (by decide +kernel) (by decide) (by decide +kernel) rfl
theorem xs_119_419 : xe_P d 119 419 [.ref a] st h Q = xe_P d 119 420 [.ref a] (.ref a :: st) h Q := xe_P_lo (ins := .aload_n 0) (len := 1) (by decide +kernel) rfl rfl
theorem xs_119_420 : xe_P d 119 420 ls st h Q = xe_P d 119 421 ls (.int 4 :: st) h Q := xe_P_ar (ins := .iconst 4) (len := 1) (by decide +kernel) rfl
theorem xs_119_421 : xe_P d 119 421 ls (.int v :: st) h Q = ((¬ v < 0 ∧ v.toNatClampNeg ≤ 200000 ∧ xe_n h < xe_S) ∧ xe_P d 119 423 ls (.ref (xe_n h) :: st) (xe_new h 8 v.toNatClampNeg) Q) := xe_P_newa (t := .int) (by decide +kernel) (by decide)
theorem xs_119_423 : xe_P d 119 423 ls (.ref b :: .ref a :: st) h Q = ((xe_ob h a 7 ∧ b < xe_S) ∧ xe_P d 119 426 ls st (xe_sR h a 38 (some b)) Q) := xe_P_putR (i := 79) (by decide +kernel) (by decide +kernel) (by decide) (by decide +kernel) rfl
theorem xs_119_426 : xe_P d 119 426 [.ref a] st h Q = xe_P d 119 427 [.ref a] (.ref a :: st) h Q := xe_P_lo (ins := .aload_n 0) (len := 1) (by decide +kernel) rfl rfl
theorem xs_119_427 : xe_P d 119 427 ls st h Q = xe_P d 119 430 ls (.int 160 :: st) h Q := xe_P_ar (ins := .sipush 160) (len := 3) (by decide +kernel) rfl
theorem xs_119_430 : xe_P d 119 430 ls (.int v :: st) h Q = ((¬ v < 0 ∧ v.toNatClampNeg ≤ 200000 ∧ xe_n h < xe_S) ∧ xe_P d 119 432 ls (.ref (xe_n h) :: st) (xe_new h 8 v.toNatClampNeg) Q) := xe_P_newa (t := .int) (by decide +kernel) (by decide)
theorem xs_119_432 : xe_P d 119 432 ls (.ref b :: .ref a :: st) h Q = ((xe_ob h a 7 ∧ b < xe_S) ∧ xe_P d 119 435 ls st (xe_sR h a 39 (some b)) Q) := xe_P_putR (i := 82) (by decide +kernel) (by decide +kernel) (by decide) (by decide +kernel) rfl
theorem xs_119_435 : xe_P d 119 435 ls [] h Q = Q none h := xe_P_vreturn (by decide +kernel) rfl
theorem xs_119 : xe_C (d + 1) 119 [.ref a] h Q = xe_P d 119 0 [.ref a] [] h Q := xe_C_at (Nat.le_of_ble_eq_true rfl) rfl
theorem xs_120_0 : xe_P d 120 0 [.long w, l1, l2, l3, l4, l5] st h Q = xe_P d 120 1 [.long w, l1, l2, l3, l4, l5] (.long w :: st) h Q := xe_P_lo (ins := .lload_n 0) (len := 1) (by decide +kernel) rfl rfl
theorem xs_120_1 : xe_P d 120 1 [l0, l1, .long w, l3, l4, l5] st h Q = xe_P d 120 2 [l0, l1, .long w, l3, l4, l5] (.long w :: st) h Q := xe_P_lo (ins := .lload_n 2) (len := 1) (by decide +kernel) rfl rfl
theorem xs_120_2 : xe_P d 120 2 ls (.long u :: .long w :: st) h Q = xe_P d 120 3 ls (.int (lg_cmp w u) :: st) h Q := xe_P_ar (ins := .lcmp) (len := 1) (by decide +kernel) rfl
theorem xs_120_3 : xe_P d 120 3 ls (.int x :: st) h Q = (if x < 0 then xe_P d 120 17 ls st h Q else xe_P d 120 6 ls st h Q) := xe_P_if (ins := .ifCond .lt 14) (len := 3) (off := 14) (by decide +kernel) (by decide) rfl rfl rfl
theorem xs_120_6 : xe_P d 120 6 [.long w, l1, l2, l3, l4, l5] st h Q = xe_P d 120 7 [.long w, l1, l2, l3, l4, l5] (.long w :: st) h Q := xe_P_lo (ins := .lload_n 0) (len := 1) (by decide +kernel) rfl rfl
theorem xs_120_7 : xe_P d 120 7 [l0, l1, l2, l3, .long w, l5] st h Q = xe_P d 120 9 [l0, l1, l2, l3, .long w, l5] (.long w :: st) h Q := xe_P_lo (ins := .lload 4) (len := 2) (by decide +kernel) rfl rfl
theorem xs_120_9 : xe_P d 120 9 ls (.long u :: .long w :: st) h Q = xe_P d 120 10 ls (.int (lg_cmp w u) :: st) h Q := xe_P_ar (ins := .lcmp) (len := 1) (by decide +kernel) rfl
theorem xs_120_10 : xe_P d 120 10 ls (.int x :: st) h Q = (if 0 < x then xe_P d 120 17 ls st h Q else xe_P d 120 13 ls st h Q) := xe_P_if (ins := .ifCond .gt 7) (len := 3) (off := 7) (by decide +kernel) (by decide) rfl rfl rfl
theorem xs_120_13 : xe_P d 120 13 ls st h Q = xe_P d 120 14 ls (.int 1 :: st) h Q := xe_P_ar (ins := .iconst 1) (len := 1) (by decide +kernel) rfl
theorem xs_120_14 : xe_P d 120 14 ls st h Q = xe_P d 120 18 ls st h Q := xe_P_go (len := 3) (off := 4) (by decide +kernel) (by decide)
theorem xs_120_17 : xe_P d 120 17 ls st h Q = xe_P d 120 18 ls (.int 0 :: st) h Q := xe_P_ar (ins := .iconst 0) (len := 1) (by decide +kernel) rfl
theorem xs_120_18 : xe_P d 120 18 ls [.int x] h Q = ((x = 0 ∨ x = 1) ∧ Q (some (.int x)) h) := xe_P_zreturn (by decide +kernel) rfl
theorem xs_120 : xe_C (d + 1) 120 [.long w0, .long w1, .long w2] h Q = xe_P d 120 0 [.long w0, .retAddr 0, .long w1, .retAddr 0, .long w2, .retAddr 0] [] h Q := xe_C_at (Nat.le_of_ble_eq_true rfl) rfl
theorem xs_121_0 : xe_P d 121 0 [.ref a, l1, l2, l3] st h Q = xe_P d 121 1 [.ref a, l1, l2, l3] (.ref a :: st) h Q := xe_P_lo (ins := .aload_n 0) (len := 1) (by decide +kernel) rfl rfl
theorem xs_121_1 : xe_P d 121 1 ls (.ref a :: st) h Q = (xe_ob h a 7 ∧ xe_P d 121 4 ls (.int (xe_I h a 12) :: st) h Q) := xe_P_getI (i := 85) (by decide +kernel) (by decide +kernel) (by decide) rfl
theorem xs_121_4 : xe_P d 121 4 ls st h Q = xe_P d 121 6 ls (.int 8 :: st) h Q := xe_P_ar (ins := .bipush 8) (len := 2) (by decide +kernel) rfl
theorem xs_121_6 : xe_P d 121 6 ls (.int v :: .int x :: st) h Q = xe_P d 121 7 ls (.int (x + v) :: st) h Q := xe_P_ar (ins := .iadd) (len := 1) (by decide +kernel) rfl
theorem xs_121_7 : xe_P d 121 7 ls st h Q = xe_P d 121 10 ls (.int 320 :: st) h Q := xe_P_ar (ins := .sipush 320) (len := 3) (by decide +kernel) rfl
theorem xs_121_10 : xe_P d 121 10 ls (.int v :: .int x :: st) h Q = (if x ≤ v then xe_P d 121 16 ls st h Q else xe_P d 121 13 ls st h Q) := xe_P_if (ins := .if_icmp .le 6) (len := 3) (off := 6) (by decide +kernel) (by decide) rfl rfl rfl
theorem xs_121_13 : xe_P d 121 13 ls st h Q = xe_P d 121 15 ls (.int (-3) :: st) h Q := xe_P_ar (ins := .bipush (-3)) (len := 2) (by decide +kernel) rfl
theorem xs_121_15 : xe_P d 121 15 ls [.int x] h Q = Q (some (.int x)) h := xe_P_ireturn (by decide +kernel) rfl
theorem xs_121_16 : xe_P d 121 16 ls st h Q = xe_P d 121 18 ls (.int 56 :: st) h Q := xe_P_ar (ins := .bipush 56) (len := 2) (by decide +kernel) rfl
theorem xs_121_18 : xe_P d 121 18 [l0, l1, l2, l3] (.int x :: st) h Q = xe_P d 121 19 [l0, l1, xe_cut l2, .int x] st h Q := xe_P_lo (ins := .istore_n 3) (len := 1) (by decide +kernel) rfl rfl
theorem xs_121_19 : xe_P d 121 19 [l0, l1, l2, .int x] st h Q = xe_P d 121 20 [l0, l1, l2, .int x] (.int x :: st) h Q := xe_P_lo (ins := .iload_n 3) (len := 1) (by decide +kernel) rfl rfl
theorem xs_121_20 : xe_P d 121 20 ls (.int x :: st) h Q = (if x < 0 then xe_P d 121 56 ls st h Q else xe_P d 121 23 ls st h Q) := xe_P_if (ins := .ifCond .lt 36) (len := 3) (off := 36) (by decide +kernel) (by decide) rfl rfl rfl
theorem xs_121_23 : xe_P d 121 23 [.ref a, l1, l2, l3] st h Q = xe_P d 121 24 [.ref a, l1, l2, l3] (.ref a :: st) h Q := xe_P_lo (ins := .aload_n 0) (len := 1) (by decide +kernel) rfl rfl
theorem xs_121_24 : xe_P d 121 24 ls (.ref a :: st) h Q = (xe_ob h a 7 ∧ xe_P d 121 27 ls (va_rf (xe_R h a 11) :: st) h Q) := xe_P_getR (i := 26) (by decide +kernel) (by decide +kernel) (by decide) rfl
theorem xs_121_27 : xe_P d 121 27 [.ref a, l1, l2, l3] st h Q = xe_P d 121 28 [.ref a, l1, l2, l3] (.ref a :: st) h Q := xe_P_lo (ins := .aload_n 0) (len := 1) (by decide +kernel) rfl rfl
theorem xs_121_28 : xe_P d 121 28 ls (.ref a :: st) h Q = (xe_ob h a 7 ∧ xe_P d 121 31 ls (.int (xe_I h a 12) :: st) h Q) := xe_P_getI (i := 85) (by decide +kernel) (by decide +kernel) (by decide) rfl
theorem xs_121_31 : xe_P d 121 31 [l0, .long w, l2, l3] st h Q = xe_P d 121 32 [l0, .long w, l2, l3] (.long w :: st) h Q := xe_P_lo (ins := .lload_n 1) (len := 1) (by decide +kernel) rfl rfl
theorem xs_121_32 : xe_P d 121 32 [l0, l1, l2, .int x] st h Q = xe_P d 121 33 [l0, l1, l2, .int x] (.int x :: st) h Q := xe_P_lo (ins := .iload_n 3) (len := 1) (by decide +kernel) rfl rfl
theorem xs_121_33 : xe_P d 121 33 ls (.int v :: .long w :: st) h Q = xe_P d 121 34 ls (.long (w >>> (v.toInt64 &&& 63)) :: st) h Q := xe_P_ar (ins := .lshr) (len := 1) (by decide +kernel) rfl
theorem xs_121_34 : xe_P d 121 34 ls (.long w :: st) h Q = xe_P d 121 35 ls (.int w.toInt32 :: st) h Q := xe_P_ar (ins := .l2i) (len := 1) (by decide +kernel) rfl
theorem xs_121_35 : xe_P d 121 35 ls st h Q = xe_P d 121 38 ls (.int 255 :: st) h Q := xe_P_ar (ins := .sipush 255) (len := 3) (by decide +kernel) rfl
theorem xs_121_38 : xe_P d 121 38 ls (.int v :: .int x :: st) h Q = xe_P d 121 39 ls (.int (x &&& v) :: st) h Q := xe_P_ar (ins := .iand) (len := 1) (by decide +kernel) rfl
theorem xs_121_39 : xe_P d 121 39 ls (.int x :: .int v :: .ref a :: st) h Q = ((xe_ob h a 8 ∧ xe_ix h a v) ∧ xe_P d 121 40 ls st (xe_sI h a v.toNatClampNeg x) Q) := xe_P_iast (by decide +kernel)
theorem xs_121_40 : xe_P d 121 40 [.ref a, l1, l2, l3] st h Q = xe_P d 121 41 [.ref a, l1, l2, l3] (.ref a :: st) h Q := xe_P_lo (ins := .aload_n 0) (len := 1) (by decide +kernel) rfl rfl
theorem xs_121_41 : xe_P d 121 41 ls (.ref a :: st) h Q = xe_P d 121 42 ls (.ref a :: .ref a :: st) h Q := xe_P_ar (ins := .dup) (len := 1) (by decide +kernel) rfl
theorem xs_121_41i : xe_P d 121 41 ls (.int x :: st) h Q = xe_P d 121 42 ls (.int x :: .int x :: st) h Q := xe_P_ar (ins := .dup) (len := 1) (by decide +kernel) rfl
theorem xs_121_42 : xe_P d 121 42 ls (.ref a :: st) h Q = (xe_ob h a 7 ∧ xe_P d 121 45 ls (.int (xe_I h a 12) :: st) h Q) := xe_P_getI (i := 85) (by decide +kernel) (by decide +kernel) (by decide) rfl
theorem xs_121_45 : xe_P d 121 45 ls st h Q = xe_P d 121 46 ls (.int 1 :: st) h Q := xe_P_ar (ins := .iconst 1) (len := 1) (by decide +kernel) rfl
theorem xs_121_46 : xe_P d 121 46 ls (.int v :: .int x :: st) h Q = xe_P d 121 47 ls (.int (x + v) :: st) h Q := xe_P_ar (ins := .iadd) (len := 1) (by decide +kernel) rfl
theorem xs_121_47 : xe_P d 121 47 ls (.int v :: .ref a :: st) h Q = (xe_ob h a 7 ∧ xe_P d 121 50 ls st (xe_sI h a 12 v) Q) := xe_P_putI (i := 85) (by decide +kernel) (by decide +kernel) (by decide) (by decide +kernel) rfl
theorem xs_121_50 : xe_P d 121 50 [l0, l1, l2, .int x] st h Q = xe_P d 121 53 [l0, l1, xe_cut l2, .int (x + (-8))] st h Q := (xe_P_lo (ls' := [l0, l1, xe_cut l2, .int (x + Int32.ofInt (-8))]) (st' := st) (ins := .iinc 3 (-8)) (len := 3) (by decide +kernel) rfl rfl).trans (by rw [show Int32.ofInt (-8) = ((-8) : Int32) by decide])
theorem xs_121_53 : xe_P d 121 53 ls st h Q = xe_P d 121 19 ls st h Q := xe_P_go (len := 3) (off := (-34)) (by decide +kernel) (by decide)
theorem xs_121_56 : xe_P d 121 56 [.ref a, l1, l2, l3] st h Q = xe_P d 121 57 [.ref a, l1, l2, l3] (.ref a :: st) h Q := xe_P_lo (ins := .aload_n 0) (len := 1) (by decide +kernel) rfl rfl
theorem xs_121_57 : xe_P d 121 57 ls (.ref a :: st) h Q = (xe_ob h a 7 ∧ xe_P d 121 60 ls (.int (xe_I h a 12) :: st) h Q) := xe_P_getI (i := 85) (by decide +kernel) (by decide +kernel) (by decide) rfl
theorem xs_121_60 : xe_P d 121 60 ls [.int x] h Q = Q (some (.int x)) h := xe_P_ireturn (by decide +kernel) rfl
theorem xs_121 : xe_C (d + 1) 121 [.ref a, .long w0] h Q = xe_P d 121 0 [.ref a, .long w0, .retAddr 0, .retAddr 0] [] h Q := xe_C_at (Nat.le_of_ble_eq_true rfl) rfl
theorem xs_122_0 : xe_P d 122 0 [l0, .int x, l2] st h Q = xe_P d 122 1 [l0, .int x, l2] (.int x :: st) h Q := xe_P_lo (ins := .iload_n 1) (len := 1) (by decide +kernel) rfl rfl
theorem xs_122_1 : xe_P d 122 1 ls (.int x :: st) h Q = xe_P d 122 2 ls (.long x.toInt64 :: st) h Q := xe_P_ar (ins := .i2l) (len := 1) (by decide +kernel) rfl
theorem xs_122_2 : xe_P d 122 2 ls st h Q = xe_P d 122 3 ls (.long 0 :: st) h Q := xe_P_ar (ins := .lconst 0) (len := 1) (by decide +kernel) rfl
theorem xs_122_3 : xe_P d 122 3 [.ref a, l1, l2] st h Q = xe_P d 122 4 [.ref a, l1, l2] (.ref a :: st) h Q := xe_P_lo (ins := .aload_n 0) (len := 1) (by decide +kernel) rfl rfl
theorem xs_122_4 : xe_P d 122 4 ls (.ref a :: st) h Q = (xe_ob h a 7 ∧ xe_P d 122 7 ls (.int (xe_I h a 12) :: st) h Q) := xe_P_getI (i := 85) (by decide +kernel) (by decide +kernel) (by decide) rfl
theorem xs_122_7 : xe_P d 122 7 ls (.int x :: st) h Q = xe_P d 122 8 ls (.long x.toInt64 :: st) h Q := xe_P_ar (ins := .i2l) (len := 1) (by decide +kernel) rfl
theorem xs_122_8 : xe_P d 122 8 ls (v2 :: v1 :: v0 :: st) h Q = (xe_w st ≤ 8 ∧ xe_C d 120 [v0, v1, v2] h (fun r h' => xe_P d 122 11 ls (r.toList ++ st) h' Q)) := xe_P_ivs (y := 122) (pc := 8) (z := 120) (i := 88) (vs := [v2, v1, v0]) (by decide +kernel) (by decide +kernel) rfl
theorem xs_122_11 : xe_P d 122 11 ls (.int x :: st) h Q = (if x = 0 then xe_P d 122 14 ls st h Q else xe_P d 122 16 ls st h Q) := xe_P_ifn (ins := .ifCond .ne 5) (len := 3) (off := 5) (by decide +kernel) (by decide) rfl rfl rfl
theorem xs_122_14 : xe_P d 122 14 ls st h Q = xe_P d 122 15 ls (.int (-1) :: st) h Q := xe_P_ar (ins := .iconst (-1)) (len := 1) (by decide +kernel) rfl
theorem xs_122_15 : xe_P d 122 15 ls [.int x] h Q = Q (some (.int x)) h := xe_P_ireturn (by decide +kernel) rfl
theorem xs_122_16 : xe_P d 122 16 [.ref a, l1, l2] st h Q = xe_P d 122 17 [.ref a, l1, l2] (.ref a :: st) h Q := xe_P_lo (ins := .aload_n 0) (len := 1) (by decide +kernel) rfl rfl
theorem xs_122_17 : xe_P d 122 17 ls (.ref a :: st) h Q = (xe_ob h a 7 ∧ xe_P d 122 20 ls (.int (xe_I h a 12) :: st) h Q) := xe_P_getI (i := 85) (by decide +kernel) (by decide +kernel) (by decide) rfl
theorem xs_122_20 : xe_P d 122 20 [l0, l1, l2] (.int x :: st) h Q = xe_P d 122 21 [l0, xe_cut l1, .int x] st h Q := xe_P_lo (ins := .istore_n 2) (len := 1) (by decide +kernel) rfl rfl
theorem xs_122_21 : xe_P d 122 21 [.ref a, l1, l2] st h Q = xe_P d 122 22 [.ref a, l1, l2] (.ref a :: st) h Q := xe_P_lo (ins := .aload_n 0) (len := 1) (by decide +kernel) rfl rfl
theorem xs_122_22 : xe_P d 122 22 [l0, .int x, l2] st h Q = xe_P d 122 23 [l0, .int x, l2] (.int x :: st) h Q := xe_P_lo (ins := .iload_n 1) (len := 1) (by decide +kernel) rfl rfl
theorem xs_122_23 : xe_P d 122 23 ls (.int v :: .ref a :: st) h Q = (xe_ob h a 7 ∧ xe_P d 122 26 ls st (xe_sI h a 12 v) Q) := xe_P_putI (i := 85) (by decide +kernel) (by decide +kernel) (by decide) (by decide +kernel) rfl
theorem xs_122_26 : xe_P d 122 26 [l0, l1, .int x] st h Q = xe_P d 122 27 [l0, l1, .int x] (.int x :: st) h Q := xe_P_lo (ins := .iload_n 2) (len := 1) (by decide +kernel) rfl rfl
theorem xs_122_27 : xe_P d 122 27 ls [.int x] h Q = Q (some (.int x)) h := xe_P_ireturn (by decide +kernel) rfl
theorem xs_122 : xe_C (d + 1) 122 [.ref a, .int x0] h Q = xe_P d 122 0 [.ref a, .int x0, .retAddr 0] [] h Q := xe_C_at (Nat.le_of_ble_eq_true rfl) rfl
theorem xs_123_0 : xe_P d 123 0 [l0, .int x] st h Q = xe_P d 123 1 [l0, .int x] (.int x :: st) h Q := xe_P_lo (ins := .iload_n 1) (len := 1) (by decide +kernel) rfl rfl
theorem xs_123_1 : xe_P d 123 1 [.ref a, l1] st h Q = xe_P d 123 2 [.ref a, l1] (.ref a :: st) h Q := xe_P_lo (ins := .aload_n 0) (len := 1) (by decide +kernel) rfl rfl
theorem xs_123_2 : xe_P d 123 2 ls (.ref a :: st) h Q = (xe_ob h a 7 ∧ xe_P d 123 5 ls (.int (xe_I h a 12) :: st) h Q) := xe_P_getI (i := 85) (by decide +kernel) (by decide +kernel) (by decide) rfl
theorem xs_123_5 : xe_P d 123 5 ls (.int v :: .int x :: st) h Q = (if v ≤ x then xe_P d 123 17 ls st h Q else xe_P d 123 8 ls st h Q) := xe_P_if (ins := .if_icmp .ge 12) (len := 3) (off := 12) (by decide +kernel) (by decide) rfl rfl rfl
theorem xs_123_8 : xe_P d 123 8 [.ref a, l1] st h Q = xe_P d 123 9 [.ref a, l1] (.ref a :: st) h Q := xe_P_lo (ins := .aload_n 0) (len := 1) (by decide +kernel) rfl rfl
theorem xs_123_9 : xe_P d 123 9 ls (.ref a :: st) h Q = (xe_ob h a 7 ∧ xe_P d 123 12 ls (va_rf (xe_R h a 11) :: st) h Q) := xe_P_getR (i := 26) (by decide +kernel) (by decide +kernel) (by decide) rfl
theorem xs_123_12 : xe_P d 123 12 [l0, .int x] st h Q = xe_P d 123 13 [l0, .int x] (.int x :: st) h Q := xe_P_lo (ins := .iload_n 1) (len := 1) (by decide +kernel) rfl rfl
theorem xs_123_13 : xe_P d 123 13 ls (.int v :: .ref a :: st) h Q = ((xe_ia h a ∧ xe_ix h a v) ∧ xe_P d 123 14 ls (.int (xe_I h a v.toNatClampNeg) :: st) h Q) := xe_P_iald (by decide +kernel)
theorem xs_123_14 : xe_P d 123 14 ls st h Q = xe_P d 123 19 ls st h Q := xe_P_go (len := 3) (off := 5) (by decide +kernel) (by decide)
theorem xs_123_17 : xe_P d 123 17 ls st h Q = xe_P d 123 19 ls (.int (-4) :: st) h Q := xe_P_ar (ins := .bipush (-4)) (len := 2) (by decide +kernel) rfl
theorem xs_123_19 : xe_P d 123 19 ls [.int x] h Q = Q (some (.int x)) h := xe_P_ireturn (by decide +kernel) rfl
theorem xs_123 : xe_C (d + 1) 123 [.ref a, .int x0] h Q = xe_P d 123 0 [.ref a, .int x0] [] h Q := xe_C_at (Nat.le_of_ble_eq_true rfl) rfl
theorem xs_124_0 : xe_P d 124 0 [.ref a, l1] st h Q = xe_P d 124 1 [.ref a, l1] (.ref a :: st) h Q := xe_P_lo (ins := .aload_n 0) (len := 1) (by decide +kernel) rfl rfl
theorem xs_124_1 : xe_P d 124 1 ls (.ref a :: st) h Q = (xe_ob h a 7 ∧ xe_P d 124 4 ls (.int (xe_I h a 14) :: st) h Q) := xe_P_getI (i := 92) (by decide +kernel) (by decide +kernel) (by decide) rfl
theorem xs_124_4 : xe_P d 124 4 ls (.int x :: st) h Q = (if x = 0 then xe_P d 124 7 ls st h Q else xe_P d 124 20 ls st h Q) := xe_P_ifn (ins := .ifCond .ne 16) (len := 3) (off := 16) (by decide +kernel) (by decide) rfl rfl rfl
theorem xs_124_7 : xe_P d 124 7 [.ref a, l1] st h Q = xe_P d 124 8 [.ref a, l1] (.ref a :: st) h Q := xe_P_lo (ins := .aload_n 0) (len := 1) (by decide +kernel) rfl rfl
theorem xs_124_8 : xe_P d 124 8 [l0, .int x] st h Q = xe_P d 124 9 [l0, .int x] (.int x :: st) h Q := xe_P_lo (ins := .iload_n 1) (len := 1) (by decide +kernel) rfl rfl
theorem xs_124_9 : xe_P d 124 9 ls (.int v :: .ref a :: st) h Q = (xe_ob h a 7 ∧ xe_P d 124 12 ls st (xe_sI h a 14 v) Q) := xe_P_putI (i := 92) (by decide +kernel) (by decide +kernel) (by decide) (by decide +kernel) rfl
theorem xs_124_12 : xe_P d 124 12 [.ref a, l1] st h Q = xe_P d 124 13 [.ref a, l1] (.ref a :: st) h Q := xe_P_lo (ins := .aload_n 0) (len := 1) (by decide +kernel) rfl rfl
theorem xs_124_13 : xe_P d 124 13 [.ref a, l1] st h Q = xe_P d 124 14 [.ref a, l1] (.ref a :: st) h Q := xe_P_lo (ins := .aload_n 0) (len := 1) (by decide +kernel) rfl rfl
theorem xs_124_14 : xe_P d 124 14 ls (.ref a :: st) h Q = (xe_ob h a 7 ∧ xe_P d 124 17 ls (.int (xe_I h a 17) :: st) h Q) := xe_P_getI (i := 95) (by decide +kernel) (by decide +kernel) (by decide) rfl
theorem xs_124_17 : xe_P d 124 17 ls (.int v :: .ref a :: st) h Q = (xe_ob h a 7 ∧ xe_P d 124 20 ls st (xe_sI h a 15 v) Q) := xe_P_putI (i := 98) (by decide +kernel) (by decide +kernel) (by decide) (by decide +kernel) rfl
theorem xs_124_20 : xe_P d 124 20 ls [] h Q = Q none h := xe_P_vreturn (by decide +kernel) rfl
theorem xs_124 : xe_C (d + 1) 124 [.ref a, .int x0] h Q = xe_P d 124 0 [.ref a, .int x0] [] h Q := xe_C_at (Nat.le_of_ble_eq_true rfl) rfl
theorem xs_125_0 : xe_P d 125 0 ls st h Q = xe_P d 125 1 ls (.int 0 :: st) h Q := xe_P_ar (ins := .iconst 0) (len := 1) (by decide +kernel) rfl
theorem xs_125_1 : xe_P d 125 1 [l0, l1, l2, l3] (.int x :: st) h Q = xe_P d 125 2 [xe_cut l0, .int x, l2, l3] st h Q := xe_P_lo (ins := .istore_n 1) (len := 1) (by decide +kernel) rfl rfl
theorem xs_125_2 : xe_P d 125 2 [l0, .int x, l2, l3] st h Q = xe_P d 125 3 [l0, .int x, l2, l3] (.int x :: st) h Q := xe_P_lo (ins := .iload_n 1) (len := 1) (by decide +kernel) rfl rfl
theorem xs_125_3 : xe_P d 125 3 ls st h Q = xe_P d 125 5 ls (.int 7 :: st) h Q := xe_P_ar (ins := .bipush 7) (len := 2) (by decide +kernel) rfl
theorem xs_125_5 : xe_P d 125 5 ls (.int v :: .int x :: st) h Q = (if v ≤ x then xe_P d 125 118 ls st h Q else xe_P d 125 8 ls st h Q) := xe_P_if (ins := .if_icmp .ge 113) (len := 3) (off := 113) (by decide +kernel) (by decide) rfl rfl rfl
theorem xs_125_8 : xe_P d 125 8 [.ref a, l1, l2, l3] st h Q = xe_P d 125 9 [.ref a, l1, l2, l3] (.ref a :: st) h Q := xe_P_lo (ins := .aload_n 0) (len := 1) (by decide +kernel) rfl rfl
theorem xs_125_9 : xe_P d 125 9 ls (.ref a :: st) h Q = (xe_ob h a 7 ∧ xe_P d 125 12 ls (.int (xe_I h a 18) :: st) h Q) := xe_P_getI (i := 101) (by decide +kernel) (by decide +kernel) (by decide) rfl
theorem xs_125_12 : xe_P d 125 12 ls st h Q = xe_P d 125 13 ls (.int 1 :: st) h Q := xe_P_ar (ins := .iconst 1) (len := 1) (by decide +kernel) rfl
theorem xs_125_13 : xe_P d 125 13 ls (.int v :: .int x :: st) h Q = (if x = v then xe_P d 125 16 ls st h Q else xe_P d 125 118 ls st h Q) := xe_P_ifn (ins := .if_icmp .ne 105) (len := 3) (off := 105) (by decide +kernel) (by decide) rfl rfl rfl
theorem xs_125_16 : xe_P d 125 16 [.ref a, l1, l2, l3] st h Q = xe_P d 125 17 [.ref a, l1, l2, l3] (.ref a :: st) h Q := xe_P_lo (ins := .aload_n 0) (len := 1) (by decide +kernel) rfl rfl
theorem xs_125_17 : xe_P d 125 17 ls (.ref a :: st) h Q = (xe_ob h a 7 ∧ xe_P d 125 20 ls (.int (xe_I h a 16) :: st) h Q) := xe_P_getI (i := 104) (by decide +kernel) (by decide +kernel) (by decide) rfl
theorem xs_125_20 : xe_P d 125 20 [.ref a, l1, l2, l3] st h Q = xe_P d 125 21 [.ref a, l1, l2, l3] (.ref a :: st) h Q := xe_P_lo (ins := .aload_n 0) (len := 1) (by decide +kernel) rfl rfl
theorem xs_125_21 : xe_P d 125 21 ls (.ref a :: st) h Q = (xe_ob h a 7 ∧ xe_P d 125 24 ls (.int (xe_I h a 17) :: st) h Q) := xe_P_getI (i := 95) (by decide +kernel) (by decide +kernel) (by decide) rfl
theorem xs_125_24 : xe_P d 125 24 ls (.int v :: .int x :: st) h Q = xe_P d 125 25 ls (.int (x - v) :: st) h Q := xe_P_ar (ins := .isub) (len := 1) (by decide +kernel) rfl
theorem xs_125_25 : xe_P d 125 25 [.ref a, l1, l2, l3] st h Q = xe_P d 125 26 [.ref a, l1, l2, l3] (.ref a :: st) h Q := xe_P_lo (ins := .aload_n 0) (len := 1) (by decide +kernel) rfl rfl
theorem xs_125_26 : xe_P d 125 26 ls (.ref a :: st) h Q = (xe_ob h a 7 ∧ xe_P d 125 29 ls (va_rf (xe_R h a 20) :: st) h Q) := xe_P_getR (i := 29) (by decide +kernel) (by decide +kernel) (by decide) rfl
theorem xs_125_29 : xe_P d 125 29 [l0, .int x, l2, l3] st h Q = xe_P d 125 30 [l0, .int x, l2, l3] (.int x :: st) h Q := xe_P_lo (ins := .iload_n 1) (len := 1) (by decide +kernel) rfl rfl
theorem xs_125_30 : xe_P d 125 30 ls st h Q = xe_P d 125 31 ls (.int 1 :: st) h Q := xe_P_ar (ins := .iconst 1) (len := 1) (by decide +kernel) rfl
theorem xs_125_31 : xe_P d 125 31 ls (.int v :: .int x :: st) h Q = xe_P d 125 32 ls (.int (x + v) :: st) h Q := xe_P_ar (ins := .iadd) (len := 1) (by decide +kernel) rfl
theorem xs_125_32 : xe_P d 125 32 ls (.int v :: .ref a :: st) h Q = ((xe_ia h a ∧ xe_ix h a v) ∧ xe_P d 125 33 ls (.int (xe_I h a v.toNatClampNeg) :: st) h Q) := xe_P_iald (by decide +kernel)
theorem xs_125_33 : xe_P d 125 33 [.ref a, l1, l2, l3] st h Q = xe_P d 125 34 [.ref a, l1, l2, l3] (.ref a :: st) h Q := xe_P_lo (ins := .aload_n 0) (len := 1) (by decide +kernel) rfl rfl
theorem xs_125_34 : xe_P d 125 34 ls (.ref a :: st) h Q = (xe_ob h a 7 ∧ xe_P d 125 37 ls (va_rf (xe_R h a 20) :: st) h Q) := xe_P_getR (i := 29) (by decide +kernel) (by decide +kernel) (by decide) rfl
theorem xs_125_37 : xe_P d 125 37 [l0, .int x, l2, l3] st h Q = xe_P d 125 38 [l0, .int x, l2, l3] (.int x :: st) h Q := xe_P_lo (ins := .iload_n 1) (len := 1) (by decide +kernel) rfl rfl
theorem xs_125_38 : xe_P d 125 38 ls (.int v :: .ref a :: st) h Q = ((xe_ia h a ∧ xe_ix h a v) ∧ xe_P d 125 39 ls (.int (xe_I h a v.toNatClampNeg) :: st) h Q) := xe_P_iald (by decide +kernel)
theorem xs_125_39 : xe_P d 125 39 ls (.int v :: .int x :: st) h Q = xe_P d 125 40 ls (.int (x - v) :: st) h Q := xe_P_ar (ins := .isub) (len := 1) (by decide +kernel) rfl
theorem xs_125_40 : xe_P d 125 40 ls (.int v :: .int x :: st) h Q = (if x = v then xe_P d 125 43 ls st h Q else xe_P d 125 47 ls st h Q) := xe_P_ifn (ins := .if_icmp .ne 7) (len := 3) (off := 7) (by decide +kernel) (by decide) rfl rfl rfl
theorem xs_125_43 : xe_P d 125 43 ls st h Q = xe_P d 125 44 ls (.int 1 :: st) h Q := xe_P_ar (ins := .iconst 1) (len := 1) (by decide +kernel) rfl
theorem xs_125_44 : xe_P d 125 44 ls st h Q = xe_P d 125 48 ls st h Q := xe_P_go (len := 3) (off := 4) (by decide +kernel) (by decide)
theorem xs_125_47 : xe_P d 125 47 ls st h Q = xe_P d 125 48 ls (.int 0 :: st) h Q := xe_P_ar (ins := .iconst 0) (len := 1) (by decide +kernel) rfl
theorem xs_125_48 : xe_P d 125 48 [l0, l1, l2, l3] (.int x :: st) h Q = xe_P d 125 49 [l0, xe_cut l1, .int x, l3] st h Q := xe_P_lo (ins := .istore_n 2) (len := 1) (by decide +kernel) rfl rfl
theorem xs_125_49 : xe_P d 125 49 ls st h Q = xe_P d 125 50 ls (.int 0 :: st) h Q := xe_P_ar (ins := .iconst 0) (len := 1) (by decide +kernel) rfl
theorem xs_125_50 : xe_P d 125 50 [l0, l1, l2, l3] (.int x :: st) h Q = xe_P d 125 51 [l0, l1, xe_cut l2, .int x] st h Q := xe_P_lo (ins := .istore_n 3) (len := 1) (by decide +kernel) rfl rfl
theorem xs_125_51 : xe_P d 125 51 [l0, l1, .int x, l3] st h Q = xe_P d 125 52 [l0, l1, .int x, l3] (.int x :: st) h Q := xe_P_lo (ins := .iload_n 2) (len := 1) (by decide +kernel) rfl rfl
theorem xs_125_52 : xe_P d 125 52 ls (.int x :: st) h Q = (if x = 0 then xe_P d 125 106 ls st h Q else xe_P d 125 55 ls st h Q) := xe_P_if (ins := .ifCond .eq 54) (len := 3) (off := 54) (by decide +kernel) (by decide) rfl rfl rfl
theorem xs_125_55 : xe_P d 125 55 [l0, l1, l2, .int x] st h Q = xe_P d 125 56 [l0, l1, l2, .int x] (.int x :: st) h Q := xe_P_lo (ins := .iload_n 3) (len := 1) (by decide +kernel) rfl rfl
theorem xs_125_56 : xe_P d 125 56 [.ref a, l1, l2, l3] st h Q = xe_P d 125 57 [.ref a, l1, l2, l3] (.ref a :: st) h Q := xe_P_lo (ins := .aload_n 0) (len := 1) (by decide +kernel) rfl rfl
theorem xs_125_57 : xe_P d 125 57 ls (.ref a :: st) h Q = (xe_ob h a 7 ∧ xe_P d 125 60 ls (.int (xe_I h a 16) :: st) h Q) := xe_P_getI (i := 104) (by decide +kernel) (by decide +kernel) (by decide) rfl
theorem xs_125_60 : xe_P d 125 60 [.ref a, l1, l2, l3] st h Q = xe_P d 125 61 [.ref a, l1, l2, l3] (.ref a :: st) h Q := xe_P_lo (ins := .aload_n 0) (len := 1) (by decide +kernel) rfl rfl
theorem xs_125_61 : xe_P d 125 61 ls (.ref a :: st) h Q = (xe_ob h a 7 ∧ xe_P d 125 64 ls (.int (xe_I h a 17) :: st) h Q) := xe_P_getI (i := 95) (by decide +kernel) (by decide +kernel) (by decide) rfl
theorem xs_125_64 : xe_P d 125 64 ls (.int v :: .int x :: st) h Q = xe_P d 125 65 ls (.int (x - v) :: st) h Q := xe_P_ar (ins := .isub) (len := 1) (by decide +kernel) rfl
theorem xs_125_65 : xe_P d 125 65 ls (.int v :: .int x :: st) h Q = (if v ≤ x then xe_P d 125 106 ls st h Q else xe_P d 125 68 ls st h Q) := xe_P_if (ins := .if_icmp .ge 41) (len := 3) (off := 41) (by decide +kernel) (by decide) rfl rfl rfl
theorem xs_125_68 : xe_P d 125 68 [.ref a, l1, l2, l3] st h Q = xe_P d 125 69 [.ref a, l1, l2, l3] (.ref a :: st) h Q := xe_P_lo (ins := .aload_n 0) (len := 1) (by decide +kernel) rfl rfl
theorem xs_125_69 : xe_P d 125 69 [.ref a, l1, l2, l3] st h Q = xe_P d 125 70 [.ref a, l1, l2, l3] (.ref a :: st) h Q := xe_P_lo (ins := .aload_n 0) (len := 1) (by decide +kernel) rfl rfl
theorem xs_125_70 : xe_P d 125 70 ls (.ref a :: st) h Q = (xe_ob h a 7 ∧ xe_P d 125 73 ls (.int (xe_I h a 17) :: st) h Q) := xe_P_getI (i := 95) (by decide +kernel) (by decide +kernel) (by decide) rfl
theorem xs_125_73 : xe_P d 125 73 [l0, l1, l2, .int x] st h Q = xe_P d 125 74 [l0, l1, l2, .int x] (.int x :: st) h Q := xe_P_lo (ins := .iload_n 3) (len := 1) (by decide +kernel) rfl rfl
theorem xs_125_74 : xe_P d 125 74 ls (.int v :: .int x :: st) h Q = xe_P d 125 75 ls (.int (x + v) :: st) h Q := xe_P_ar (ins := .iadd) (len := 1) (by decide +kernel) rfl
theorem xs_125_75 : xe_P d 125 75 ls (v0 :: .ref a :: st) h Q = ((xe_w st ≤ 8 ∧ xe_ob h a 7) ∧ xe_C d 123 [.ref a, v0] h (fun r h' => xe_P d 125 78 ls (r.toList ++ st) h' Q)) := xe_P_ivv (y := 125) (pc := 75) (z := 123) (i := 107) (vs := [v0]) (by decide +kernel) (by decide +kernel) rfl (by decide +kernel)
theorem xs_125_78 : xe_P d 125 78 [.ref a, l1, l2, l3] st h Q = xe_P d 125 79 [.ref a, l1, l2, l3] (.ref a :: st) h Q := xe_P_lo (ins := .aload_n 0) (len := 1) (by decide +kernel) rfl rfl
theorem xs_125_79 : xe_P d 125 79 ls (.ref a :: st) h Q = (xe_ob h a 7 ∧ xe_P d 125 82 ls (va_rf (xe_R h a 21) :: st) h Q) := xe_P_getR (i := 32) (by decide +kernel) (by decide +kernel) (by decide) rfl
theorem xs_125_82 : xe_P d 125 82 [.ref a, l1, l2, l3] st h Q = xe_P d 125 83 [.ref a, l1, l2, l3] (.ref a :: st) h Q := xe_P_lo (ins := .aload_n 0) (len := 1) (by decide +kernel) rfl rfl
theorem xs_125_83 : xe_P d 125 83 ls (.ref a :: st) h Q = (xe_ob h a 7 ∧ xe_P d 125 86 ls (va_rf (xe_R h a 20) :: st) h Q) := xe_P_getR (i := 29) (by decide +kernel) (by decide +kernel) (by decide) rfl
theorem xs_125_86 : xe_P d 125 86 [l0, .int x, l2, l3] st h Q = xe_P d 125 87 [l0, .int x, l2, l3] (.int x :: st) h Q := xe_P_lo (ins := .iload_n 1) (len := 1) (by decide +kernel) rfl rfl
theorem xs_125_87 : xe_P d 125 87 ls (.int v :: .ref a :: st) h Q = ((xe_ia h a ∧ xe_ix h a v) ∧ xe_P d 125 88 ls (.int (xe_I h a v.toNatClampNeg) :: st) h Q) := xe_P_iald (by decide +kernel)
theorem xs_125_88 : xe_P d 125 88 [l0, l1, l2, .int x] st h Q = xe_P d 125 89 [l0, l1, l2, .int x] (.int x :: st) h Q := xe_P_lo (ins := .iload_n 3) (len := 1) (by decide +kernel) rfl rfl
theorem xs_125_89 : xe_P d 125 89 ls (.int v :: .int x :: st) h Q = xe_P d 125 90 ls (.int (x + v) :: st) h Q := xe_P_ar (ins := .iadd) (len := 1) (by decide +kernel) rfl
theorem xs_125_90 : xe_P d 125 90 ls (.int v :: .ref a :: st) h Q = ((xe_ia h a ∧ xe_ix h a v) ∧ xe_P d 125 91 ls (.int (xe_I h a v.toNatClampNeg) :: st) h Q) := xe_P_iald (by decide +kernel)
theorem xs_125_91 : xe_P d 125 91 ls (.int v :: .int x :: st) h Q = (if x = v then xe_P d 125 94 ls st h Q else xe_P d 125 98 ls st h Q) := xe_P_ifn (ins := .if_icmp .ne 7) (len := 3) (off := 7) (by decide +kernel) (by decide) rfl rfl rfl
theorem xs_125_94 : xe_P d 125 94 ls st h Q = xe_P d 125 95 ls (.int 1 :: st) h Q := xe_P_ar (ins := .iconst 1) (len := 1) (by decide +kernel) rfl
theorem xs_125_95 : xe_P d 125 95 ls st h Q = xe_P d 125 99 ls st h Q := xe_P_go (len := 3) (off := 4) (by decide +kernel) (by decide)
theorem xs_125_98 : xe_P d 125 98 ls st h Q = xe_P d 125 99 ls (.int 0 :: st) h Q := xe_P_ar (ins := .iconst 0) (len := 1) (by decide +kernel) rfl
theorem xs_125_99 : xe_P d 125 99 [l0, l1, l2, l3] (.int x :: st) h Q = xe_P d 125 100 [l0, xe_cut l1, .int x, l3] st h Q := xe_P_lo (ins := .istore_n 2) (len := 1) (by decide +kernel) rfl rfl
theorem xs_125_100 : xe_P d 125 100 [l0, l1, l2, .int x] st h Q = xe_P d 125 103 [l0, l1, xe_cut l2, .int (x + 1)] st h Q := xe_P_lo (ins := .iinc 3 1) (len := 3) (by decide +kernel) rfl rfl
theorem xs_125_103 : xe_P d 125 103 ls st h Q = xe_P d 125 51 ls st h Q := xe_P_go (len := 3) (off := (-52)) (by decide +kernel) (by decide)
theorem xs_125_106 : xe_P d 125 106 [l0, l1, .int x, l3] st h Q = xe_P d 125 107 [l0, l1, .int x, l3] (.int x :: st) h Q := xe_P_lo (ins := .iload_n 2) (len := 1) (by decide +kernel) rfl rfl
theorem xs_125_107 : xe_P d 125 107 ls (.int x :: st) h Q = (if x = 0 then xe_P d 125 112 ls st h Q else xe_P d 125 110 ls st h Q) := xe_P_if (ins := .ifCond .eq 5) (len := 3) (off := 5) (by decide +kernel) (by decide) rfl rfl rfl
theorem xs_125_110 : xe_P d 125 110 [l0, .int x, l2, l3] st h Q = xe_P d 125 111 [l0, .int x, l2, l3] (.int x :: st) h Q := xe_P_lo (ins := .iload_n 1) (len := 1) (by decide +kernel) rfl rfl
theorem xs_125_111 : xe_P d 125 111 ls [.int x] h Q = Q (some (.int x)) h := xe_P_ireturn (by decide +kernel) rfl
theorem xs_125_112 : xe_P d 125 112 [l0, .int x, l2, l3] st h Q = xe_P d 125 115 [xe_cut l0, .int (x + 1), l2, l3] st h Q := xe_P_lo (ins := .iinc 1 1) (len := 3) (by decide +kernel) rfl rfl
theorem xs_125_115 : xe_P d 125 115 ls st h Q = xe_P d 125 2 ls st h Q := xe_P_go (len := 3) (off := (-113)) (by decide +kernel) (by decide)
theorem xs_125_118 : xe_P d 125 118 ls st h Q = xe_P d 125 120 ls (.int (-4) :: st) h Q := xe_P_ar (ins := .bipush (-4)) (len := 2) (by decide +kernel) rfl
theorem xs_125_120 : xe_P d 125 120 ls [.int x] h Q = Q (some (.int x)) h := xe_P_ireturn (by decide +kernel) rfl
theorem xs_125 : xe_C (d + 1) 125 [.ref a] h Q = xe_P d 125 0 [.ref a, .retAddr 0, .retAddr 0, .retAddr 0] [] h Q := xe_C_at (Nat.le_of_ble_eq_true rfl) rfl
theorem xs_126_0 : xe_P d 126 0 [.ref a, l1] st h Q = xe_P d 126 1 [.ref a, l1] (.ref a :: st) h Q := xe_P_lo (ins := .aload_n 0) (len := 1) (by decide +kernel) rfl rfl
theorem xs_126_1 : xe_P d 126 1 ls (.ref a :: st) h Q = (xe_ob h a 7 ∧ xe_P d 126 4 ls (.int (xe_I h a 14) :: st) h Q) := xe_P_getI (i := 92) (by decide +kernel) (by decide +kernel) (by decide) rfl
theorem xs_126_4 : xe_P d 126 4 ls (.int x :: st) h Q = (if x ≤ 0 then xe_P d 126 8 ls st h Q else xe_P d 126 7 ls st h Q) := xe_P_if (ins := .ifCond .le 4) (len := 3) (off := 4) (by decide +kernel) (by decide) rfl rfl rfl
theorem xs_126_7 : xe_P d 126 7 ls [] h Q = Q none h := xe_P_vreturn (by decide +kernel) rfl
theorem xs_126_8 : xe_P d 126 8 [.ref a, l1] st h Q = xe_P d 126 9 [.ref a, l1] (.ref a :: st) h Q := xe_P_lo (ins := .aload_n 0) (len := 1) (by decide +kernel) rfl rfl
theorem xs_126_9 : xe_P d 126 9 [.ref a, l1] st h Q = xe_P d 126 10 [.ref a, l1] (.ref a :: st) h Q := xe_P_lo (ins := .aload_n 0) (len := 1) (by decide +kernel) rfl rfl
theorem xs_126_10 : xe_P d 126 10 ls (.ref a :: st) h Q = (xe_ob h a 7 ∧ xe_P d 126 13 ls (.int (xe_I h a 16) :: st) h Q) := xe_P_getI (i := 104) (by decide +kernel) (by decide +kernel) (by decide) rfl
theorem xs_126_13 : xe_P d 126 13 ls (v0 :: .ref a :: st) h Q = ((xe_w st ≤ 8 ∧ xe_ob h a 7) ∧ xe_C d 123 [.ref a, v0] h (fun r h' => xe_P d 126 16 ls (r.toList ++ st) h' Q)) := xe_P_ivv (y := 126) (pc := 13) (z := 123) (i := 107) (vs := [v0]) (by decide +kernel) (by decide +kernel) rfl (by decide +kernel)
theorem xs_126_16 : xe_P d 126 16 ls st h Q = xe_P d 126 18 ls (.int 32 :: st) h Q := xe_P_ar (ins := .bipush 32) (len := 2) (by decide +kernel) rfl
theorem xs_126_18 : xe_P d 126 18 ls (.int v :: .int x :: st) h Q = (if x = v then xe_P d 126 21 ls st h Q else xe_P d 126 34 ls st h Q) := xe_P_ifn (ins := .if_icmp .ne 16) (len := 3) (off := 16) (by decide +kernel) (by decide) rfl rfl rfl
theorem xs_126_21 : xe_P d 126 21 [.ref a, l1] st h Q = xe_P d 126 22 [.ref a, l1] (.ref a :: st) h Q := xe_P_lo (ins := .aload_n 0) (len := 1) (by decide +kernel) rfl rfl
theorem xs_126_22 : xe_P d 126 22 ls (.ref a :: st) h Q = xe_P d 126 23 ls (.ref a :: .ref a :: st) h Q := xe_P_ar (ins := .dup) (len := 1) (by decide +kernel) rfl
theorem xs_126_22i : xe_P d 126 22 ls (.int x :: st) h Q = xe_P d 126 23 ls (.int x :: .int x :: st) h Q := xe_P_ar (ins := .dup) (len := 1) (by decide +kernel) rfl
theorem xs_126_23 : xe_P d 126 23 ls (.ref a :: st) h Q = (xe_ob h a 7 ∧ xe_P d 126 26 ls (.int (xe_I h a 16) :: st) h Q) := xe_P_getI (i := 104) (by decide +kernel) (by decide +kernel) (by decide) rfl
theorem xs_126_26 : xe_P d 126 26 ls st h Q = xe_P d 126 27 ls (.int 1 :: st) h Q := xe_P_ar (ins := .iconst 1) (len := 1) (by decide +kernel) rfl
theorem xs_126_27 : xe_P d 126 27 ls (.int v :: .int x :: st) h Q = xe_P d 126 28 ls (.int (x + v) :: st) h Q := xe_P_ar (ins := .iadd) (len := 1) (by decide +kernel) rfl
theorem xs_126_28 : xe_P d 126 28 ls (.int v :: .ref a :: st) h Q = (xe_ob h a 7 ∧ xe_P d 126 31 ls st (xe_sI h a 16 v) Q) := xe_P_putI (i := 104) (by decide +kernel) (by decide +kernel) (by decide) (by decide +kernel) rfl
theorem xs_126_31 : xe_P d 126 31 ls st h Q = xe_P d 126 8 ls st h Q := xe_P_go (len := 3) (off := (-23)) (by decide +kernel) (by decide)
theorem xs_126_34 : xe_P d 126 34 [.ref a, l1] st h Q = xe_P d 126 35 [.ref a, l1] (.ref a :: st) h Q := xe_P_lo (ins := .aload_n 0) (len := 1) (by decide +kernel) rfl rfl
theorem xs_126_35 : xe_P d 126 35 [.ref a, l1] st h Q = xe_P d 126 36 [.ref a, l1] (.ref a :: st) h Q := xe_P_lo (ins := .aload_n 0) (len := 1) (by decide +kernel) rfl rfl
theorem xs_126_36 : xe_P d 126 36 ls (.ref a :: st) h Q = (xe_ob h a 7 ∧ xe_P d 126 39 ls (.int (xe_I h a 16) :: st) h Q) := xe_P_getI (i := 104) (by decide +kernel) (by decide +kernel) (by decide) rfl
theorem xs_126_39 : xe_P d 126 39 ls (.int v :: .ref a :: st) h Q = (xe_ob h a 7 ∧ xe_P d 126 42 ls st (xe_sI h a 17 v) Q) := xe_P_putI (i := 95) (by decide +kernel) (by decide +kernel) (by decide) (by decide +kernel) rfl
theorem xs_126_42 : xe_P d 126 42 [.ref a, l1] st h Q = xe_P d 126 43 [.ref a, l1] (.ref a :: st) h Q := xe_P_lo (ins := .aload_n 0) (len := 1) (by decide +kernel) rfl rfl
theorem xs_126_43 : xe_P d 126 43 [.ref a, l1] st h Q = xe_P d 126 44 [.ref a, l1] (.ref a :: st) h Q := xe_P_lo (ins := .aload_n 0) (len := 1) (by decide +kernel) rfl rfl
theorem xs_126_44 : xe_P d 126 44 ls (.ref a :: st) h Q = (xe_ob h a 7 ∧ xe_P d 126 47 ls (.int (xe_I h a 16) :: st) h Q) := xe_P_getI (i := 104) (by decide +kernel) (by decide +kernel) (by decide) rfl
theorem xs_126_47 : xe_P d 126 47 ls (v0 :: .ref a :: st) h Q = ((xe_w st ≤ 8 ∧ xe_ob h a 7) ∧ xe_C d 123 [.ref a, v0] h (fun r h' => xe_P d 126 50 ls (r.toList ++ st) h' Q)) := xe_P_ivv (y := 126) (pc := 47) (z := 123) (i := 107) (vs := [v0]) (by decide +kernel) (by decide +kernel) rfl (by decide +kernel)
theorem xs_126_50 : xe_P d 126 50 [l0, l1] (.int x :: st) h Q = xe_P d 126 51 [xe_cut l0, .int x] st h Q := xe_P_lo (ins := .istore_n 1) (len := 1) (by decide +kernel) rfl rfl
theorem xs_126_51 : xe_P d 126 51 [.ref a, l1] st h Q = xe_P d 126 52 [.ref a, l1] (.ref a :: st) h Q := xe_P_lo (ins := .aload_n 0) (len := 1) (by decide +kernel) rfl rfl
theorem xs_126_52 : xe_P d 126 52 ls st h Q = xe_P d 126 53 ls (.int 0 :: st) h Q := xe_P_ar (ins := .iconst 0) (len := 1) (by decide +kernel) rfl
theorem xs_126_53 : xe_P d 126 53 ls (.int v :: .ref a :: st) h Q = (xe_ob h a 7 ∧ xe_P d 126 56 ls st (xe_sI h a 19 v) Q) := xe_P_putI (i := 111) (by decide +kernel) (by decide +kernel) (by decide) (by decide +kernel) rfl
theorem xs_126_56 : xe_P d 126 56 [l0, .int x] st h Q = xe_P d 126 57 [l0, .int x] (.int x :: st) h Q := xe_P_lo (ins := .iload_n 1) (len := 1) (by decide +kernel) rfl rfl
theorem xs_126_57 : xe_P d 126 57 ls st h Q = xe_P d 126 59 ls (.int (-4) :: st) h Q := xe_P_ar (ins := .bipush (-4)) (len := 2) (by decide +kernel) rfl
theorem xs_126_59 : xe_P d 126 59 ls (.int v :: .int x :: st) h Q = (if x = v then xe_P d 126 62 ls st h Q else xe_P d 126 70 ls st h Q) := xe_P_ifn (ins := .if_icmp .ne 11) (len := 3) (off := 11) (by decide +kernel) (by decide) rfl rfl rfl
theorem xs_126_62 : xe_P d 126 62 [.ref a, l1] st h Q = xe_P d 126 63 [.ref a, l1] (.ref a :: st) h Q := xe_P_lo (ins := .aload_n 0) (len := 1) (by decide +kernel) rfl rfl
theorem xs_126_63 : xe_P d 126 63 ls st h Q = xe_P d 126 64 ls (.int 0 :: st) h Q := xe_P_ar (ins := .iconst 0) (len := 1) (by decide +kernel) rfl
theorem xs_126_64 : xe_P d 126 64 ls (.int v :: .ref a :: st) h Q = (xe_ob h a 7 ∧ xe_P d 126 67 ls st (xe_sI h a 18 v) Q) := xe_P_putI (i := 101) (by decide +kernel) (by decide +kernel) (by decide) (by decide +kernel) rfl
theorem xs_126_67 : xe_P d 126 67 ls st h Q = xe_P d 126 269 ls st h Q := xe_P_go (len := 3) (off := 202) (by decide +kernel) (by decide)
theorem xs_126_70 : xe_P d 126 70 [l0, .int x] st h Q = xe_P d 126 71 [l0, .int x] (.int x :: st) h Q := xe_P_lo (ins := .iload_n 1) (len := 1) (by decide +kernel) rfl rfl
theorem xs_126_71 : xe_P d 126 71 ls (.int x :: st) h Q = xe_P d 126 72 ls (.long x.toInt64 :: st) h Q := xe_P_ar (ins := .i2l) (len := 1) (by decide +kernel) rfl
theorem xs_126_72 : xe_P d 126 72 ls st h Q = xe_P d 126 75 ls (.long 97 :: st) h Q := xe_P_ldc2 (j := 114) (by decide +kernel) (by decide +kernel)
theorem xs_126_75 : xe_P d 126 75 ls st h Q = xe_P d 126 78 ls (.long 122 :: st) h Q := xe_P_ldc2 (j := 116) (by decide +kernel) (by decide +kernel)
theorem xs_126_78 : xe_P d 126 78 ls (v2 :: v1 :: v0 :: st) h Q = (xe_w st ≤ 8 ∧ xe_C d 120 [v0, v1, v2] h (fun r h' => xe_P d 126 81 ls (r.toList ++ st) h' Q)) := xe_P_ivs (y := 126) (pc := 78) (z := 120) (i := 88) (vs := [v2, v1, v0]) (by decide +kernel) (by decide +kernel) rfl
theorem xs_126_81 : xe_P d 126 81 ls (.int x :: st) h Q = (if x = 0 then xe_P d 126 126 ls st h Q else xe_P d 126 84 ls st h Q) := xe_P_if (ins := .ifCond .eq 45) (len := 3) (off := 45) (by decide +kernel) (by decide) rfl rfl rfl
theorem xs_126_84 : xe_P d 126 84 [.ref a, l1] st h Q = xe_P d 126 85 [.ref a, l1] (.ref a :: st) h Q := xe_P_lo (ins := .aload_n 0) (len := 1) (by decide +kernel) rfl rfl
theorem xs_126_85 : xe_P d 126 85 [.ref a, l1] st h Q = xe_P d 126 86 [.ref a, l1] (.ref a :: st) h Q := xe_P_lo (ins := .aload_n 0) (len := 1) (by decide +kernel) rfl rfl
theorem xs_126_86 : xe_P d 126 86 ls (.ref a :: st) h Q = (xe_ob h a 7 ∧ xe_P d 126 89 ls (.int (xe_I h a 16) :: st) h Q) := xe_P_getI (i := 104) (by decide +kernel) (by decide +kernel) (by decide) rfl
theorem xs_126_89 : xe_P d 126 89 ls (v0 :: .ref a :: st) h Q = ((xe_w st ≤ 8 ∧ xe_ob h a 7) ∧ xe_C d 123 [.ref a, v0] h (fun r h' => xe_P d 126 92 ls (r.toList ++ st) h' Q)) := xe_P_ivv (y := 126) (pc := 89) (z := 123) (i := 107) (vs := [v0]) (by decide +kernel) (by decide +kernel) rfl (by decide +kernel)
theorem xs_126_92 : xe_P d 126 92 ls (.int x :: st) h Q = xe_P d 126 93 ls (.long x.toInt64 :: st) h Q := xe_P_ar (ins := .i2l) (len := 1) (by decide +kernel) rfl
theorem xs_126_93 : xe_P d 126 93 ls st h Q = xe_P d 126 96 ls (.long 97 :: st) h Q := xe_P_ldc2 (j := 114) (by decide +kernel) (by decide +kernel)
theorem xs_126_96 : xe_P d 126 96 ls st h Q = xe_P d 126 99 ls (.long 122 :: st) h Q := xe_P_ldc2 (j := 116) (by decide +kernel) (by decide +kernel)
theorem xs_126_99 : xe_P d 126 99 ls (v2 :: v1 :: v0 :: st) h Q = (xe_w st ≤ 8 ∧ xe_C d 120 [v0, v1, v2] h (fun r h' => xe_P d 126 102 ls (r.toList ++ st) h' Q)) := xe_P_ivs (y := 126) (pc := 99) (z := 120) (i := 88) (vs := [v2, v1, v0]) (by decide +kernel) (by decide +kernel) rfl
theorem xs_126_102 : xe_P d 126 102 ls (.int x :: st) h Q = (if x = 0 then xe_P d 126 118 ls st h Q else xe_P d 126 105 ls st h Q) := xe_P_if (ins := .ifCond .eq 16) (len := 3) (off := 16) (by decide +kernel) (by decide) rfl rfl rfl
theorem xs_126_105 : xe_P d 126 105 [.ref a, l1] st h Q = xe_P d 126 106 [.ref a, l1] (.ref a :: st) h Q := xe_P_lo (ins := .aload_n 0) (len := 1) (by decide +kernel) rfl rfl
theorem xs_126_106 : xe_P d 126 106 ls (.ref a :: st) h Q = xe_P d 126 107 ls (.ref a :: .ref a :: st) h Q := xe_P_ar (ins := .dup) (len := 1) (by decide +kernel) rfl
theorem xs_126_106i : xe_P d 126 106 ls (.int x :: st) h Q = xe_P d 126 107 ls (.int x :: .int x :: st) h Q := xe_P_ar (ins := .dup) (len := 1) (by decide +kernel) rfl
theorem xs_126_107 : xe_P d 126 107 ls (.ref a :: st) h Q = (xe_ob h a 7 ∧ xe_P d 126 110 ls (.int (xe_I h a 16) :: st) h Q) := xe_P_getI (i := 104) (by decide +kernel) (by decide +kernel) (by decide) rfl
theorem xs_126_110 : xe_P d 126 110 ls st h Q = xe_P d 126 111 ls (.int 1 :: st) h Q := xe_P_ar (ins := .iconst 1) (len := 1) (by decide +kernel) rfl
theorem xs_126_111 : xe_P d 126 111 ls (.int v :: .int x :: st) h Q = xe_P d 126 112 ls (.int (x + v) :: st) h Q := xe_P_ar (ins := .iadd) (len := 1) (by decide +kernel) rfl
theorem xs_126_112 : xe_P d 126 112 ls (.int v :: .ref a :: st) h Q = (xe_ob h a 7 ∧ xe_P d 126 115 ls st (xe_sI h a 16 v) Q) := xe_P_putI (i := 104) (by decide +kernel) (by decide +kernel) (by decide) (by decide +kernel) rfl
theorem xs_126_115 : xe_P d 126 115 ls st h Q = xe_P d 126 84 ls st h Q := xe_P_go (len := 3) (off := (-31)) (by decide +kernel) (by decide)
theorem xs_126_118 : xe_P d 126 118 [.ref a, l1] st h Q = xe_P d 126 119 [.ref a, l1] (.ref a :: st) h Q := xe_P_lo (ins := .aload_n 0) (len := 1) (by decide +kernel) rfl rfl
theorem xs_126_119 : xe_P d 126 119 ls st h Q = xe_P d 126 120 ls (.int 1 :: st) h Q := xe_P_ar (ins := .iconst 1) (len := 1) (by decide +kernel) rfl
theorem xs_126_120 : xe_P d 126 120 ls (.int v :: .ref a :: st) h Q = (xe_ob h a 7 ∧ xe_P d 126 123 ls st (xe_sI h a 18 v) Q) := xe_P_putI (i := 101) (by decide +kernel) (by decide +kernel) (by decide) (by decide +kernel) rfl
theorem xs_126_123 : xe_P d 126 123 ls st h Q = xe_P d 126 269 ls st h Q := xe_P_go (len := 3) (off := 146) (by decide +kernel) (by decide)
theorem xs_126_126 : xe_P d 126 126 [l0, .int x] st h Q = xe_P d 126 127 [l0, .int x] (.int x :: st) h Q := xe_P_lo (ins := .iload_n 1) (len := 1) (by decide +kernel) rfl rfl
theorem xs_126_127 : xe_P d 126 127 ls (.int x :: st) h Q = xe_P d 126 128 ls (.long x.toInt64 :: st) h Q := xe_P_ar (ins := .i2l) (len := 1) (by decide +kernel) rfl
theorem xs_126_128 : xe_P d 126 128 ls st h Q = xe_P d 126 131 ls (.long 48 :: st) h Q := xe_P_ldc2 (j := 118) (by decide +kernel) (by decide +kernel)
theorem xs_126_131 : xe_P d 126 131 ls st h Q = xe_P d 126 134 ls (.long 57 :: st) h Q := xe_P_ldc2 (j := 120) (by decide +kernel) (by decide +kernel)
theorem xs_126_134 : xe_P d 126 134 ls (v2 :: v1 :: v0 :: st) h Q = (xe_w st ≤ 8 ∧ xe_C d 120 [v0, v1, v2] h (fun r h' => xe_P d 126 137 ls (r.toList ++ st) h' Q)) := xe_P_ivs (y := 126) (pc := 134) (z := 120) (i := 88) (vs := [v2, v1, v0]) (by decide +kernel) (by decide +kernel) rfl
theorem xs_126_137 : xe_P d 126 137 ls (.int x :: st) h Q = (if x = 0 then xe_P d 126 243 ls st h Q else xe_P d 126 140 ls st h Q) := xe_P_if (ins := .ifCond .eq 106) (len := 3) (off := 106) (by decide +kernel) (by decide) rfl rfl rfl
theorem xs_126_140 : xe_P d 126 140 [.ref a, l1] st h Q = xe_P d 126 141 [.ref a, l1] (.ref a :: st) h Q := xe_P_lo (ins := .aload_n 0) (len := 1) (by decide +kernel) rfl rfl
theorem xs_126_141 : xe_P d 126 141 [.ref a, l1] st h Q = xe_P d 126 142 [.ref a, l1] (.ref a :: st) h Q := xe_P_lo (ins := .aload_n 0) (len := 1) (by decide +kernel) rfl rfl
theorem xs_126_142 : xe_P d 126 142 ls (.ref a :: st) h Q = (xe_ob h a 7 ∧ xe_P d 126 145 ls (.int (xe_I h a 16) :: st) h Q) := xe_P_getI (i := 104) (by decide +kernel) (by decide +kernel) (by decide) rfl
theorem xs_126_145 : xe_P d 126 145 ls (v0 :: .ref a :: st) h Q = ((xe_w st ≤ 8 ∧ xe_ob h a 7) ∧ xe_C d 123 [.ref a, v0] h (fun r h' => xe_P d 126 148 ls (r.toList ++ st) h' Q)) := xe_P_ivv (y := 126) (pc := 145) (z := 123) (i := 107) (vs := [v0]) (by decide +kernel) (by decide +kernel) rfl (by decide +kernel)
theorem xs_126_148 : xe_P d 126 148 ls (.int x :: st) h Q = xe_P d 126 149 ls (.long x.toInt64 :: st) h Q := xe_P_ar (ins := .i2l) (len := 1) (by decide +kernel) rfl
theorem xs_126_149 : xe_P d 126 149 ls st h Q = xe_P d 126 152 ls (.long 48 :: st) h Q := xe_P_ldc2 (j := 118) (by decide +kernel) (by decide +kernel)
theorem xs_126_152 : xe_P d 126 152 ls st h Q = xe_P d 126 155 ls (.long 57 :: st) h Q := xe_P_ldc2 (j := 120) (by decide +kernel) (by decide +kernel)
theorem xs_126_155 : xe_P d 126 155 ls (v2 :: v1 :: v0 :: st) h Q = (xe_w st ≤ 8 ∧ xe_C d 120 [v0, v1, v2] h (fun r h' => xe_P d 126 158 ls (r.toList ++ st) h' Q)) := xe_P_ivs (y := 126) (pc := 155) (z := 120) (i := 88) (vs := [v2, v1, v0]) (by decide +kernel) (by decide +kernel) rfl
theorem xs_126_158 : xe_P d 126 158 ls (.int x :: st) h Q = (if x = 0 then xe_P d 126 217 ls st h Q else xe_P d 126 161 ls st h Q) := xe_P_if (ins := .ifCond .eq 59) (len := 3) (off := 59) (by decide +kernel) (by decide) rfl rfl rfl
theorem xs_126_161 : xe_P d 126 161 [.ref a, l1] st h Q = xe_P d 126 162 [.ref a, l1] (.ref a :: st) h Q := xe_P_lo (ins := .aload_n 0) (len := 1) (by decide +kernel) rfl rfl
theorem xs_126_162 : xe_P d 126 162 [.ref a, l1] st h Q = xe_P d 126 163 [.ref a, l1] (.ref a :: st) h Q := xe_P_lo (ins := .aload_n 0) (len := 1) (by decide +kernel) rfl rfl
theorem xs_126_163 : xe_P d 126 163 ls (.ref a :: st) h Q = (xe_ob h a 7 ∧ xe_P d 126 166 ls (.int (xe_I h a 16) :: st) h Q) := xe_P_getI (i := 104) (by decide +kernel) (by decide +kernel) (by decide) rfl
theorem xs_126_166 : xe_P d 126 166 [.ref a, l1] st h Q = xe_P d 126 167 [.ref a, l1] (.ref a :: st) h Q := xe_P_lo (ins := .aload_n 0) (len := 1) (by decide +kernel) rfl rfl
theorem xs_126_167 : xe_P d 126 167 ls (.ref a :: st) h Q = (xe_ob h a 7 ∧ xe_P d 126 170 ls (.int (xe_I h a 17) :: st) h Q) := xe_P_getI (i := 95) (by decide +kernel) (by decide +kernel) (by decide) rfl
theorem xs_126_170 : xe_P d 126 170 ls (.int v :: .int x :: st) h Q = xe_P d 126 171 ls (.int (x - v) :: st) h Q := xe_P_ar (ins := .isub) (len := 1) (by decide +kernel) rfl
theorem xs_126_171 : xe_P d 126 171 ls st h Q = xe_P d 126 172 ls (.int 2 :: st) h Q := xe_P_ar (ins := .iconst 2) (len := 1) (by decide +kernel) rfl
theorem xs_126_172 : xe_P d 126 172 ls (.int v :: .int x :: st) h Q = (if v ≤ x then xe_P d 126 197 ls st h Q else xe_P d 126 175 ls st h Q) := xe_P_if (ins := .if_icmp .ge 25) (len := 3) (off := 25) (by decide +kernel) (by decide) rfl rfl rfl
theorem xs_126_175 : xe_P d 126 175 ls st h Q = xe_P d 126 177 ls (.int 10 :: st) h Q := xe_P_ar (ins := .bipush 10) (len := 2) (by decide +kernel) rfl
theorem xs_126_177 : xe_P d 126 177 [.ref a, l1] st h Q = xe_P d 126 178 [.ref a, l1] (.ref a :: st) h Q := xe_P_lo (ins := .aload_n 0) (len := 1) (by decide +kernel) rfl rfl
theorem xs_126_178 : xe_P d 126 178 ls (.ref a :: st) h Q = (xe_ob h a 7 ∧ xe_P d 126 181 ls (.int (xe_I h a 19) :: st) h Q) := xe_P_getI (i := 111) (by decide +kernel) (by decide +kernel) (by decide) rfl
theorem xs_126_181 : xe_P d 126 181 ls (.int v :: .int x :: st) h Q = xe_P d 126 182 ls (.int (x * v) :: st) h Q := xe_P_ar (ins := .imul) (len := 1) (by decide +kernel) rfl
theorem xs_126_182 : xe_P d 126 182 [.ref a, l1] st h Q = xe_P d 126 183 [.ref a, l1] (.ref a :: st) h Q := xe_P_lo (ins := .aload_n 0) (len := 1) (by decide +kernel) rfl rfl
theorem xs_126_183 : xe_P d 126 183 [.ref a, l1] st h Q = xe_P d 126 184 [.ref a, l1] (.ref a :: st) h Q := xe_P_lo (ins := .aload_n 0) (len := 1) (by decide +kernel) rfl rfl
theorem xs_126_184 : xe_P d 126 184 ls (.ref a :: st) h Q = (xe_ob h a 7 ∧ xe_P d 126 187 ls (.int (xe_I h a 16) :: st) h Q) := xe_P_getI (i := 104) (by decide +kernel) (by decide +kernel) (by decide) rfl
theorem xs_126_187 : xe_P d 126 187 ls (v0 :: .ref a :: st) h Q = ((xe_w st ≤ 8 ∧ xe_ob h a 7) ∧ xe_C d 123 [.ref a, v0] h (fun r h' => xe_P d 126 190 ls (r.toList ++ st) h' Q)) := xe_P_ivv (y := 126) (pc := 187) (z := 123) (i := 107) (vs := [v0]) (by decide +kernel) (by decide +kernel) rfl (by decide +kernel)
theorem xs_126_190 : xe_P d 126 190 ls (.int v :: .int x :: st) h Q = xe_P d 126 191 ls (.int (x + v) :: st) h Q := xe_P_ar (ins := .iadd) (len := 1) (by decide +kernel) rfl
theorem xs_126_191 : xe_P d 126 191 ls st h Q = xe_P d 126 193 ls (.int 48 :: st) h Q := xe_P_ar (ins := .bipush 48) (len := 2) (by decide +kernel) rfl
theorem xs_126_193 : xe_P d 126 193 ls (.int v :: .int x :: st) h Q = xe_P d 126 194 ls (.int (x - v) :: st) h Q := xe_P_ar (ins := .isub) (len := 1) (by decide +kernel) rfl
theorem xs_126_194 : xe_P d 126 194 ls st h Q = xe_P d 126 201 ls st h Q := xe_P_go (len := 3) (off := 7) (by decide +kernel) (by decide)
theorem xs_126_197 : xe_P d 126 197 [.ref a, l1] st h Q = xe_P d 126 198 [.ref a, l1] (.ref a :: st) h Q := xe_P_lo (ins := .aload_n 0) (len := 1) (by decide +kernel) rfl rfl
theorem xs_126_198 : xe_P d 126 198 ls (.ref a :: st) h Q = (xe_ob h a 7 ∧ xe_P d 126 201 ls (.int (xe_I h a 19) :: st) h Q) := xe_P_getI (i := 111) (by decide +kernel) (by decide +kernel) (by decide) rfl
theorem xs_126_201 : xe_P d 126 201 ls (.int v :: .ref a :: st) h Q = (xe_ob h a 7 ∧ xe_P d 126 204 ls st (xe_sI h a 19 v) Q) := xe_P_putI (i := 111) (by decide +kernel) (by decide +kernel) (by decide) (by decide +kernel) rfl
theorem xs_126_204 : xe_P d 126 204 [.ref a, l1] st h Q = xe_P d 126 205 [.ref a, l1] (.ref a :: st) h Q := xe_P_lo (ins := .aload_n 0) (len := 1) (by decide +kernel) rfl rfl
theorem xs_126_205 : xe_P d 126 205 ls (.ref a :: st) h Q = xe_P d 126 206 ls (.ref a :: .ref a :: st) h Q := xe_P_ar (ins := .dup) (len := 1) (by decide +kernel) rfl
theorem xs_126_205i : xe_P d 126 205 ls (.int x :: st) h Q = xe_P d 126 206 ls (.int x :: .int x :: st) h Q := xe_P_ar (ins := .dup) (len := 1) (by decide +kernel) rfl
theorem xs_126_206 : xe_P d 126 206 ls (.ref a :: st) h Q = (xe_ob h a 7 ∧ xe_P d 126 209 ls (.int (xe_I h a 16) :: st) h Q) := xe_P_getI (i := 104) (by decide +kernel) (by decide +kernel) (by decide) rfl
theorem xs_126_209 : xe_P d 126 209 ls st h Q = xe_P d 126 210 ls (.int 1 :: st) h Q := xe_P_ar (ins := .iconst 1) (len := 1) (by decide +kernel) rfl
theorem xs_126_210 : xe_P d 126 210 ls (.int v :: .int x :: st) h Q = xe_P d 126 211 ls (.int (x + v) :: st) h Q := xe_P_ar (ins := .iadd) (len := 1) (by decide +kernel) rfl
theorem xs_126_211 : xe_P d 126 211 ls (.int v :: .ref a :: st) h Q = (xe_ob h a 7 ∧ xe_P d 126 214 ls st (xe_sI h a 16 v) Q) := xe_P_putI (i := 104) (by decide +kernel) (by decide +kernel) (by decide) (by decide +kernel) rfl
theorem xs_126_214 : xe_P d 126 214 ls st h Q = xe_P d 126 140 ls st h Q := xe_P_go (len := 3) (off := (-74)) (by decide +kernel) (by decide)
theorem xs_126_217 : xe_P d 126 217 [.ref a, l1] st h Q = xe_P d 126 218 [.ref a, l1] (.ref a :: st) h Q := xe_P_lo (ins := .aload_n 0) (len := 1) (by decide +kernel) rfl rfl
theorem xs_126_218 : xe_P d 126 218 ls st h Q = xe_P d 126 219 ls (.int 2 :: st) h Q := xe_P_ar (ins := .iconst 2) (len := 1) (by decide +kernel) rfl
theorem xs_126_219 : xe_P d 126 219 ls (.int v :: .ref a :: st) h Q = (xe_ob h a 7 ∧ xe_P d 126 222 ls st (xe_sI h a 18 v) Q) := xe_P_putI (i := 101) (by decide +kernel) (by decide +kernel) (by decide) (by decide +kernel) rfl
theorem xs_126_222 : xe_P d 126 222 [.ref a, l1] st h Q = xe_P d 126 223 [.ref a, l1] (.ref a :: st) h Q := xe_P_lo (ins := .aload_n 0) (len := 1) (by decide +kernel) rfl rfl
theorem xs_126_223 : xe_P d 126 223 ls (.ref a :: st) h Q = (xe_ob h a 7 ∧ xe_P d 126 226 ls (.int (xe_I h a 16) :: st) h Q) := xe_P_getI (i := 104) (by decide +kernel) (by decide +kernel) (by decide) rfl
theorem xs_126_226 : xe_P d 126 226 [.ref a, l1] st h Q = xe_P d 126 227 [.ref a, l1] (.ref a :: st) h Q := xe_P_lo (ins := .aload_n 0) (len := 1) (by decide +kernel) rfl rfl
theorem xs_126_227 : xe_P d 126 227 ls (.ref a :: st) h Q = (xe_ob h a 7 ∧ xe_P d 126 230 ls (.int (xe_I h a 17) :: st) h Q) := xe_P_getI (i := 95) (by decide +kernel) (by decide +kernel) (by decide) rfl
theorem xs_126_230 : xe_P d 126 230 ls (.int v :: .int x :: st) h Q = xe_P d 126 231 ls (.int (x - v) :: st) h Q := xe_P_ar (ins := .isub) (len := 1) (by decide +kernel) rfl
theorem xs_126_231 : xe_P d 126 231 ls st h Q = xe_P d 126 232 ls (.int 2 :: st) h Q := xe_P_ar (ins := .iconst 2) (len := 1) (by decide +kernel) rfl
theorem xs_126_232 : xe_P d 126 232 ls (.int v :: .int x :: st) h Q = (if x ≤ v then xe_P d 126 269 ls st h Q else xe_P d 126 235 ls st h Q) := xe_P_if (ins := .if_icmp .le 37) (len := 3) (off := 37) (by decide +kernel) (by decide) rfl rfl rfl
theorem xs_126_235 : xe_P d 126 235 [.ref a, l1] st h Q = xe_P d 126 236 [.ref a, l1] (.ref a :: st) h Q := xe_P_lo (ins := .aload_n 0) (len := 1) (by decide +kernel) rfl rfl
theorem xs_126_236 : xe_P d 126 236 ls st h Q = xe_P d 126 237 ls (.int 1 :: st) h Q := xe_P_ar (ins := .iconst 1) (len := 1) (by decide +kernel) rfl
theorem xs_126_237 : xe_P d 126 237 ls (v0 :: .ref a :: st) h Q = ((xe_w st ≤ 8 ∧ xe_ob h a 7) ∧ xe_C d 124 [.ref a, v0] h (fun r h' => xe_P d 126 240 ls (r.toList ++ st) h' Q)) := xe_P_ivv (y := 126) (pc := 237) (z := 124) (i := 122) (vs := [v0]) (by decide +kernel) (by decide +kernel) rfl (by decide +kernel)
theorem xs_126_240 : xe_P d 126 240 ls st h Q = xe_P d 126 269 ls st h Q := xe_P_go (len := 3) (off := 29) (by decide +kernel) (by decide)
theorem xs_126_243 : xe_P d 126 243 [.ref a, l1] st h Q = xe_P d 126 244 [.ref a, l1] (.ref a :: st) h Q := xe_P_lo (ins := .aload_n 0) (len := 1) (by decide +kernel) rfl rfl
theorem xs_126_244 : xe_P d 126 244 ls st h Q = xe_P d 126 245 ls (.int 3 :: st) h Q := xe_P_ar (ins := .iconst 3) (len := 1) (by decide +kernel) rfl
theorem xs_126_245 : xe_P d 126 245 ls (.int v :: .ref a :: st) h Q = (xe_ob h a 7 ∧ xe_P d 126 248 ls st (xe_sI h a 18 v) Q) := xe_P_putI (i := 101) (by decide +kernel) (by decide +kernel) (by decide) (by decide +kernel) rfl
theorem xs_126_248 : xe_P d 126 248 [.ref a, l1] st h Q = xe_P d 126 249 [.ref a, l1] (.ref a :: st) h Q := xe_P_lo (ins := .aload_n 0) (len := 1) (by decide +kernel) rfl rfl
theorem xs_126_249 : xe_P d 126 249 ls (.ref a :: st) h Q = xe_P d 126 250 ls (.ref a :: .ref a :: st) h Q := xe_P_ar (ins := .dup) (len := 1) (by decide +kernel) rfl
theorem xs_126_249i : xe_P d 126 249 ls (.int x :: st) h Q = xe_P d 126 250 ls (.int x :: .int x :: st) h Q := xe_P_ar (ins := .dup) (len := 1) (by decide +kernel) rfl
theorem xs_126_250 : xe_P d 126 250 ls (.ref a :: st) h Q = (xe_ob h a 7 ∧ xe_P d 126 253 ls (.int (xe_I h a 16) :: st) h Q) := xe_P_getI (i := 104) (by decide +kernel) (by decide +kernel) (by decide) rfl
theorem xs_126_253 : xe_P d 126 253 ls st h Q = xe_P d 126 254 ls (.int 1 :: st) h Q := xe_P_ar (ins := .iconst 1) (len := 1) (by decide +kernel) rfl
theorem xs_126_254 : xe_P d 126 254 ls (.int v :: .int x :: st) h Q = xe_P d 126 255 ls (.int (x + v) :: st) h Q := xe_P_ar (ins := .iadd) (len := 1) (by decide +kernel) rfl
theorem xs_126_255 : xe_P d 126 255 ls (.int v :: .ref a :: st) h Q = (xe_ob h a 7 ∧ xe_P d 126 258 ls st (xe_sI h a 16 v) Q) := xe_P_putI (i := 104) (by decide +kernel) (by decide +kernel) (by decide) (by decide +kernel) rfl
theorem xs_126_258 : xe_P d 126 258 [l0, .int x] st h Q = xe_P d 126 259 [l0, .int x] (.int x :: st) h Q := xe_P_lo (ins := .iload_n 1) (len := 1) (by decide +kernel) rfl rfl
theorem xs_126_259 : xe_P d 126 259 ls st h Q = xe_P d 126 261 ls (.int 59 :: st) h Q := xe_P_ar (ins := .bipush 59) (len := 2) (by decide +kernel) rfl
theorem xs_126_261 : xe_P d 126 261 ls (.int v :: .int x :: st) h Q = (if x = v then xe_P d 126 269 ls st h Q else xe_P d 126 264 ls st h Q) := xe_P_if (ins := .if_icmp .eq 8) (len := 3) (off := 8) (by decide +kernel) (by decide) rfl rfl rfl
theorem xs_126_264 : xe_P d 126 264 [.ref a, l1] st h Q = xe_P d 126 265 [.ref a, l1] (.ref a :: st) h Q := xe_P_lo (ins := .aload_n 0) (len := 1) (by decide +kernel) rfl rfl
theorem xs_126_265 : xe_P d 126 265 ls st h Q = xe_P d 126 266 ls (.int 1 :: st) h Q := xe_P_ar (ins := .iconst 1) (len := 1) (by decide +kernel) rfl
theorem xs_126_266 : xe_P d 126 266 ls (v0 :: .ref a :: st) h Q = ((xe_w st ≤ 8 ∧ xe_ob h a 7) ∧ xe_C d 124 [.ref a, v0] h (fun r h' => xe_P d 126 269 ls (r.toList ++ st) h' Q)) := xe_P_ivv (y := 126) (pc := 266) (z := 124) (i := 122) (vs := [v0]) (by decide +kernel) (by decide +kernel) rfl (by decide +kernel)
theorem xs_126_269 : xe_P d 126 269 ls [] h Q = Q none h := xe_P_vreturn (by decide +kernel) rfl
theorem xs_126 : xe_C (d + 1) 126 [.ref a] h Q = xe_P d 126 0 [.ref a, .retAddr 0] [] h Q := xe_C_at (Nat.le_of_ble_eq_true rfl) rfl
theorem xs_127_0 : xe_P d 127 0 [.ref a, l1, l2, l3, l4] st h Q = xe_P d 127 1 [.ref a, l1, l2, l3, l4] (.ref a :: st) h Q := xe_P_lo (ins := .aload_n 0) (len := 1) (by decide +kernel) rfl rfl
theorem xs_127_1 : xe_P d 127 1 ls (.ref a :: st) h Q = (xe_ob h a 7 ∧ xe_P d 127 4 ls (.int (xe_I h a 14) :: st) h Q) := xe_P_getI (i := 92) (by decide +kernel) (by decide +kernel) (by decide) rfl
theorem xs_127_4 : xe_P d 127 4 ls (.int x :: st) h Q = (if x = 0 then xe_P d 127 7 ls st h Q else xe_P d 127 20 ls st h Q) := xe_P_ifn (ins := .ifCond .ne 16) (len := 3) (off := 16) (by decide +kernel) (by decide) rfl rfl rfl
theorem xs_127_7 : xe_P d 127 7 [.ref a, l1, l2, l3, l4] st h Q = xe_P d 127 8 [.ref a, l1, l2, l3, l4] (.ref a :: st) h Q := xe_P_lo (ins := .aload_n 0) (len := 1) (by decide +kernel) rfl rfl
theorem xs_127_8 : xe_P d 127 8 ls (.ref a :: st) h Q = (xe_ob h a 7 ∧ xe_P d 127 11 ls (.int (xe_I h a 18) :: st) h Q) := xe_P_getI (i := 101) (by decide +kernel) (by decide +kernel) (by decide) rfl
theorem xs_127_11 : xe_P d 127 11 ls st h Q = xe_P d 127 12 ls (.int 2 :: st) h Q := xe_P_ar (ins := .iconst 2) (len := 1) (by decide +kernel) rfl
theorem xs_127_12 : xe_P d 127 12 ls (.int v :: .int x :: st) h Q = (if x = v then xe_P d 127 20 ls st h Q else xe_P d 127 15 ls st h Q) := xe_P_if (ins := .if_icmp .eq 8) (len := 3) (off := 8) (by decide +kernel) (by decide) rfl rfl rfl
theorem xs_127_15 : xe_P d 127 15 [.ref a, l1, l2, l3, l4] st h Q = xe_P d 127 16 [.ref a, l1, l2, l3, l4] (.ref a :: st) h Q := xe_P_lo (ins := .aload_n 0) (len := 1) (by decide +kernel) rfl rfl
theorem xs_127_16 : xe_P d 127 16 ls st h Q = xe_P d 127 17 ls (.int 2 :: st) h Q := xe_P_ar (ins := .iconst 2) (len := 1) (by decide +kernel) rfl
theorem xs_127_17 : xe_P d 127 17 ls (v0 :: .ref a :: st) h Q = ((xe_w st ≤ 8 ∧ xe_ob h a 7) ∧ xe_C d 124 [.ref a, v0] h (fun r h' => xe_P d 127 20 ls (r.toList ++ st) h' Q)) := xe_P_ivv (y := 127) (pc := 17) (z := 124) (i := 122) (vs := [v0]) (by decide +kernel) (by decide +kernel) rfl (by decide +kernel)
theorem xs_127_20 : xe_P d 127 20 [.ref a, l1, l2, l3, l4] st h Q = xe_P d 127 21 [.ref a, l1, l2, l3, l4] (.ref a :: st) h Q := xe_P_lo (ins := .aload_n 0) (len := 1) (by decide +kernel) rfl rfl
theorem xs_127_21 : xe_P d 127 21 ls (.ref a :: st) h Q = (xe_ob h a 7 ∧ xe_P d 127 24 ls (.int (xe_I h a 14) :: st) h Q) := xe_P_getI (i := 92) (by decide +kernel) (by decide +kernel) (by decide) rfl
theorem xs_127_24 : xe_P d 127 24 ls (.int x :: st) h Q = (if x = 0 then xe_P d 127 27 ls st h Q else xe_P d 127 47 ls st h Q) := xe_P_ifn (ins := .ifCond .ne 23) (len := 3) (off := 23) (by decide +kernel) (by decide) rfl rfl rfl
theorem xs_127_27 : xe_P d 127 27 [.ref a, l1, l2, l3, l4] st h Q = xe_P d 127 28 [.ref a, l1, l2, l3, l4] (.ref a :: st) h Q := xe_P_lo (ins := .aload_n 0) (len := 1) (by decide +kernel) rfl rfl
theorem xs_127_28 : xe_P d 127 28 ls (.ref a :: st) h Q = (xe_ob h a 7 ∧ xe_P d 127 31 ls (.int (xe_I h a 19) :: st) h Q) := xe_P_getI (i := 111) (by decide +kernel) (by decide +kernel) (by decide) rfl
theorem xs_127_31 : xe_P d 127 31 ls (.int x :: st) h Q = xe_P d 127 32 ls (.long x.toInt64 :: st) h Q := xe_P_ar (ins := .i2l) (len := 1) (by decide +kernel) rfl
theorem xs_127_32 : xe_P d 127 32 [l0, .int x, l2, l3, l4] st h Q = xe_P d 127 33 [l0, .int x, l2, l3, l4] (.int x :: st) h Q := xe_P_lo (ins := .iload_n 1) (len := 1) (by decide +kernel) rfl rfl
theorem xs_127_33 : xe_P d 127 33 ls (.int x :: st) h Q = xe_P d 127 34 ls (.long x.toInt64 :: st) h Q := xe_P_ar (ins := .i2l) (len := 1) (by decide +kernel) rfl
theorem xs_127_34 : xe_P d 127 34 [l0, l1, .int x, l3, l4] st h Q = xe_P d 127 35 [l0, l1, .int x, l3, l4] (.int x :: st) h Q := xe_P_lo (ins := .iload_n 2) (len := 1) (by decide +kernel) rfl rfl
theorem xs_127_35 : xe_P d 127 35 ls (.int x :: st) h Q = xe_P d 127 36 ls (.long x.toInt64 :: st) h Q := xe_P_ar (ins := .i2l) (len := 1) (by decide +kernel) rfl
theorem xs_127_36 : xe_P d 127 36 ls (v2 :: v1 :: v0 :: st) h Q = (xe_w st ≤ 8 ∧ xe_C d 120 [v0, v1, v2] h (fun r h' => xe_P d 127 39 ls (r.toList ++ st) h' Q)) := xe_P_ivs (y := 127) (pc := 36) (z := 120) (i := 88) (vs := [v2, v1, v0]) (by decide +kernel) (by decide +kernel) rfl
theorem xs_127_39 : xe_P d 127 39 ls (.int x :: st) h Q = (if x = 0 then xe_P d 127 42 ls st h Q else xe_P d 127 47 ls st h Q) := xe_P_ifn (ins := .ifCond .ne 8) (len := 3) (off := 8) (by decide +kernel) (by decide) rfl rfl rfl
theorem xs_127_42 : xe_P d 127 42 [.ref a, l1, l2, l3, l4] st h Q = xe_P d 127 43 [.ref a, l1, l2, l3, l4] (.ref a :: st) h Q := xe_P_lo (ins := .aload_n 0) (len := 1) (by decide +kernel) rfl rfl
theorem xs_127_43 : xe_P d 127 43 ls st h Q = xe_P d 127 44 ls (.int 3 :: st) h Q := xe_P_ar (ins := .iconst 3) (len := 1) (by decide +kernel) rfl
theorem xs_127_44 : xe_P d 127 44 ls (v0 :: .ref a :: st) h Q = ((xe_w st ≤ 8 ∧ xe_ob h a 7) ∧ xe_C d 124 [.ref a, v0] h (fun r h' => xe_P d 127 47 ls (r.toList ++ st) h' Q)) := xe_P_ivv (y := 127) (pc := 44) (z := 124) (i := 122) (vs := [v0]) (by decide +kernel) (by decide +kernel) rfl (by decide +kernel)
theorem xs_127_47 : xe_P d 127 47 [.ref a, l1, l2, l3, l4] st h Q = xe_P d 127 48 [.ref a, l1, l2, l3, l4] (.ref a :: st) h Q := xe_P_lo (ins := .aload_n 0) (len := 1) (by decide +kernel) rfl rfl
theorem xs_127_48 : xe_P d 127 48 ls (.ref a :: st) h Q = (xe_ob h a 7 ∧ xe_P d 127 51 ls (.int (xe_I h a 14) :: st) h Q) := xe_P_getI (i := 92) (by decide +kernel) (by decide +kernel) (by decide) rfl
theorem xs_127_51 : xe_P d 127 51 ls (.int x :: st) h Q = (if x = 0 then xe_P d 127 54 ls st h Q else xe_P d 127 71 ls st h Q) := xe_P_ifn (ins := .ifCond .ne 20) (len := 3) (off := 20) (by decide +kernel) (by decide) rfl rfl rfl
theorem xs_127_54 : xe_P d 127 54 [l0, l1, l2, .int x, l4] st h Q = xe_P d 127 55 [l0, l1, l2, .int x, l4] (.int x :: st) h Q := xe_P_lo (ins := .iload_n 3) (len := 1) (by decide +kernel) rfl rfl
theorem xs_127_55 : xe_P d 127 55 [.ref a, l1, l2, l3, l4] st h Q = xe_P d 127 56 [.ref a, l1, l2, l3, l4] (.ref a :: st) h Q := xe_P_lo (ins := .aload_n 0) (len := 1) (by decide +kernel) rfl rfl
theorem xs_127_56 : xe_P d 127 56 ls (.ref a :: st) h Q = (xe_ob h a 7 ∧ xe_P d 127 59 ls (.int (xe_I h a 19) :: st) h Q) := xe_P_getI (i := 111) (by decide +kernel) (by decide +kernel) (by decide) rfl
theorem xs_127_59 : xe_P d 127 59 ls (.int v :: .int x :: st) h Q = xe_P d 127 60 ls (.int (x >>> (v &&& 31)) :: st) h Q := xe_P_ar (ins := .ishr) (len := 1) (by decide +kernel) rfl
theorem xs_127_60 : xe_P d 127 60 ls st h Q = xe_P d 127 61 ls (.int 1 :: st) h Q := xe_P_ar (ins := .iconst 1) (len := 1) (by decide +kernel) rfl
theorem xs_127_61 : xe_P d 127 61 ls (.int v :: .int x :: st) h Q = xe_P d 127 62 ls (.int (x &&& v) :: st) h Q := xe_P_ar (ins := .iand) (len := 1) (by decide +kernel) rfl
theorem xs_127_62 : xe_P d 127 62 ls st h Q = xe_P d 127 63 ls (.int 1 :: st) h Q := xe_P_ar (ins := .iconst 1) (len := 1) (by decide +kernel) rfl
theorem xs_127_63 : xe_P d 127 63 ls (.int v :: .int x :: st) h Q = (if x = v then xe_P d 127 66 ls st h Q else xe_P d 127 71 ls st h Q) := xe_P_ifn (ins := .if_icmp .ne 8) (len := 3) (off := 8) (by decide +kernel) (by decide) rfl rfl rfl
theorem xs_127_66 : xe_P d 127 66 [.ref a, l1, l2, l3, l4] st h Q = xe_P d 127 67 [.ref a, l1, l2, l3, l4] (.ref a :: st) h Q := xe_P_lo (ins := .aload_n 0) (len := 1) (by decide +kernel) rfl rfl
theorem xs_127_67 : xe_P d 127 67 ls st h Q = xe_P d 127 68 ls (.int 4 :: st) h Q := xe_P_ar (ins := .iconst 4) (len := 1) (by decide +kernel) rfl
theorem xs_127_68 : xe_P d 127 68 ls (v0 :: .ref a :: st) h Q = ((xe_w st ≤ 8 ∧ xe_ob h a 7) ∧ xe_C d 124 [.ref a, v0] h (fun r h' => xe_P d 127 71 ls (r.toList ++ st) h' Q)) := xe_P_ivv (y := 127) (pc := 68) (z := 124) (i := 122) (vs := [v0]) (by decide +kernel) (by decide +kernel) rfl (by decide +kernel)
theorem xs_127_71 : xe_P d 127 71 [.ref a, l1, l2, l3, l4] st h Q = xe_P d 127 72 [.ref a, l1, l2, l3, l4] (.ref a :: st) h Q := xe_P_lo (ins := .aload_n 0) (len := 1) (by decide +kernel) rfl rfl
theorem xs_127_72 : xe_P d 127 72 ls (.ref a :: st) h Q = (xe_ob h a 7 ∧ xe_P d 127 75 ls (.int (xe_I h a 14) :: st) h Q) := xe_P_getI (i := 92) (by decide +kernel) (by decide +kernel) (by decide) rfl
theorem xs_127_75 : xe_P d 127 75 ls (.int x :: st) h Q = (if x = 0 then xe_P d 127 78 ls st h Q else xe_P d 127 85 ls st h Q) := xe_P_ifn (ins := .ifCond .ne 10) (len := 3) (off := 10) (by decide +kernel) (by decide) rfl rfl rfl
theorem xs_127_78 : xe_P d 127 78 [.ref a, l1, l2, l3, l4] st h Q = xe_P d 127 79 [.ref a, l1, l2, l3, l4] (.ref a :: st) h Q := xe_P_lo (ins := .aload_n 0) (len := 1) (by decide +kernel) rfl rfl
theorem xs_127_79 : xe_P d 127 79 ls (.ref a :: st) h Q = (xe_ob h a 7 ∧ xe_P d 127 82 ls (.int (xe_I h a 19) :: st) h Q) := xe_P_getI (i := 111) (by decide +kernel) (by decide +kernel) (by decide) rfl
theorem xs_127_82 : xe_P d 127 82 ls st h Q = xe_P d 127 86 ls st h Q := xe_P_go (len := 3) (off := 4) (by decide +kernel) (by decide)
theorem xs_127_85 : xe_P d 127 85 [l0, .int x, l2, l3, l4] st h Q = xe_P d 127 86 [l0, .int x, l2, l3, l4] (.int x :: st) h Q := xe_P_lo (ins := .iload_n 1) (len := 1) (by decide +kernel) rfl rfl
theorem xs_127_86 : xe_P d 127 86 [l0, l1, l2, l3, l4] (.int x :: st) h Q = xe_P d 127 88 [l0, l1, l2, xe_cut l3, .int x] st h Q := xe_P_lo (ins := .istore 4) (len := 2) (by decide +kernel) rfl rfl
theorem xs_127_88 : xe_P d 127 88 [.ref a, l1, l2, l3, l4] st h Q = xe_P d 127 89 [.ref a, l1, l2, l3, l4] (.ref a :: st) h Q := xe_P_lo (ins := .aload_n 0) (len := 1) (by decide +kernel) rfl rfl
theorem xs_127_89 : xe_P d 127 89 ls (.ref a :: st) h Q = ((xe_w st ≤ 8 ∧ xe_ob h a 7) ∧ xe_C d 126 [.ref a] h (fun r h' => xe_P d 127 92 ls (r.toList ++ st) h' Q)) := xe_P_ivv (y := 127) (pc := 89) (z := 126) (i := 126) (vs := []) (by decide +kernel) (by decide +kernel) rfl (by decide +kernel)
theorem xs_127_92 : xe_P d 127 92 [l0, l1, l2, l3, .int x] st h Q = xe_P d 127 94 [l0, l1, l2, l3, .int x] (.int x :: st) h Q := xe_P_lo (ins := .iload 4) (len := 2) (by decide +kernel) rfl rfl
theorem xs_127_94 : xe_P d 127 94 ls [.int x] h Q = Q (some (.int x)) h := xe_P_ireturn (by decide +kernel) rfl
theorem xs_127 : xe_C (d + 1) 127 [.ref a, .int x0, .int x1, .int x2] h Q = xe_P d 127 0 [.ref a, .int x0, .int x1, .int x2, .retAddr 0] [] h Q := xe_C_at (Nat.le_of_ble_eq_true rfl) rfl
theorem xs_128_0 : xe_P d 128 0 [.ref a, l1, l2] st h Q = xe_P d 128 1 [.ref a, l1, l2] (.ref a :: st) h Q := xe_P_lo (ins := .aload_n 0) (len := 1) (by decide +kernel) rfl rfl
theorem xs_128_1 : xe_P d 128 1 ls st h Q = xe_P d 128 2 ls (.int 0 :: st) h Q := xe_P_ar (ins := .iconst 0) (len := 1) (by decide +kernel) rfl
theorem xs_128_2 : xe_P d 128 2 ls st h Q = xe_P d 128 3 ls (.int 4 :: st) h Q := xe_P_ar (ins := .iconst 4) (len := 1) (by decide +kernel) rfl
theorem xs_128_3 : xe_P d 128 3 [l0, .int x, l2] st h Q = xe_P d 128 4 [l0, .int x, l2] (.int x :: st) h Q := xe_P_lo (ins := .iload_n 1) (len := 1) (by decide +kernel) rfl rfl
theorem xs_128_4 : xe_P d 128 4 ls (v2 :: v1 :: v0 :: .ref a :: st) h Q = ((xe_w st ≤ 8 ∧ xe_ob h a 7) ∧ xe_C d 127 [.ref a, v0, v1, v2] h (fun r h' => xe_P d 128 7 ls (r.toList ++ st) h' Q)) := xe_P_ivv (y := 128) (pc := 4) (z := 127) (i := 129) (vs := [v2, v1, v0]) (by decide +kernel) (by decide +kernel) rfl (by decide +kernel)
theorem xs_128_7 : xe_P d 128 7 [l0, l1, l2] (.int x :: st) h Q = xe_P d 128 8 [l0, xe_cut l1, .int x] st h Q := xe_P_lo (ins := .istore_n 2) (len := 1) (by decide +kernel) rfl rfl
theorem xs_128_8 : xe_P d 128 8 [.ref a, l1, l2] st h Q = xe_P d 128 9 [.ref a, l1, l2] (.ref a :: st) h Q := xe_P_lo (ins := .aload_n 0) (len := 1) (by decide +kernel) rfl rfl
theorem xs_128_9 : xe_P d 128 9 [l0, l1, .int x] st h Q = xe_P d 128 10 [l0, l1, .int x] (.int x :: st) h Q := xe_P_lo (ins := .iload_n 2) (len := 1) (by decide +kernel) rfl rfl
theorem xs_128_10 : xe_P d 128 10 [.ref a, l1, l2] st h Q = xe_P d 128 11 [.ref a, l1, l2] (.ref a :: st) h Q := xe_P_lo (ins := .aload_n 0) (len := 1) (by decide +kernel) rfl rfl
theorem xs_128_11 : xe_P d 128 11 ls (.ref a :: st) h Q = (xe_ob h a 7 ∧ xe_P d 128 14 ls (.int (xe_I h a 5) :: st) h Q) := xe_P_getI (i := 133) (by decide +kernel) (by decide +kernel) (by decide) rfl
theorem xs_128_14 : xe_P d 128 14 ls (.int v :: .int x :: st) h Q = (if x ≤ v then xe_P d 128 21 ls st h Q else xe_P d 128 17 ls st h Q) := xe_P_if (ins := .if_icmp .le 7) (len := 3) (off := 7) (by decide +kernel) (by decide) rfl rfl rfl
theorem xs_128_17 : xe_P d 128 17 [l0, l1, .int x] st h Q = xe_P d 128 18 [l0, l1, .int x] (.int x :: st) h Q := xe_P_lo (ins := .iload_n 2) (len := 1) (by decide +kernel) rfl rfl
theorem xs_128_18 : xe_P d 128 18 ls st h Q = xe_P d 128 25 ls st h Q := xe_P_go (len := 3) (off := 7) (by decide +kernel) (by decide)
theorem xs_128_21 : xe_P d 128 21 [.ref a, l1, l2] st h Q = xe_P d 128 22 [.ref a, l1, l2] (.ref a :: st) h Q := xe_P_lo (ins := .aload_n 0) (len := 1) (by decide +kernel) rfl rfl
theorem xs_128_22 : xe_P d 128 22 ls (.ref a :: st) h Q = (xe_ob h a 7 ∧ xe_P d 128 25 ls (.int (xe_I h a 5) :: st) h Q) := xe_P_getI (i := 133) (by decide +kernel) (by decide +kernel) (by decide) rfl
theorem xs_128_25 : xe_P d 128 25 ls (.int v :: .ref a :: st) h Q = (xe_ob h a 7 ∧ xe_P d 128 28 ls st (xe_sI h a 5 v) Q) := xe_P_putI (i := 133) (by decide +kernel) (by decide +kernel) (by decide) (by decide +kernel) rfl
theorem xs_128_28 : xe_P d 128 28 [l0, l1, .int x] st h Q = xe_P d 128 29 [l0, l1, .int x] (.int x :: st) h Q := xe_P_lo (ins := .iload_n 2) (len := 1) (by decide +kernel) rfl rfl
theorem xs_128_29 : xe_P d 128 29 ls [.int x] h Q = Q (some (.int x)) h := xe_P_ireturn (by decide +kernel) rfl
theorem xs_128 : xe_C (d + 1) 128 [.ref a, .int x0] h Q = xe_P d 128 0 [.ref a, .int x0, .retAddr 0] [] h Q := xe_C_at (Nat.le_of_ble_eq_true rfl) rfl
theorem xs_129_0 : xe_P d 129 0 [.ref a, l1, l2] st h Q = xe_P d 129 1 [.ref a, l1, l2] (.ref a :: st) h Q := xe_P_lo (ins := .aload_n 0) (len := 1) (by decide +kernel) rfl rfl
theorem xs_129_1 : xe_P d 129 1 ls st h Q = xe_P d 129 2 ls (.int 0 :: st) h Q := xe_P_ar (ins := .iconst 0) (len := 1) (by decide +kernel) rfl
theorem xs_129_2 : xe_P d 129 2 ls st h Q = xe_P d 129 3 ls (.int 5 :: st) h Q := xe_P_ar (ins := .iconst 5) (len := 1) (by decide +kernel) rfl
theorem xs_129_3 : xe_P d 129 3 [l0, .int x, l2] st h Q = xe_P d 129 4 [l0, .int x, l2] (.int x :: st) h Q := xe_P_lo (ins := .iload_n 1) (len := 1) (by decide +kernel) rfl rfl
theorem xs_129_4 : xe_P d 129 4 ls (v2 :: v1 :: v0 :: .ref a :: st) h Q = ((xe_w st ≤ 8 ∧ xe_ob h a 7) ∧ xe_C d 127 [.ref a, v0, v1, v2] h (fun r h' => xe_P d 129 7 ls (r.toList ++ st) h' Q)) := xe_P_ivv (y := 129) (pc := 4) (z := 127) (i := 129) (vs := [v2, v1, v0]) (by decide +kernel) (by decide +kernel) rfl (by decide +kernel)
theorem xs_129_7 : xe_P d 129 7 [l0, l1, l2] (.int x :: st) h Q = xe_P d 129 8 [l0, xe_cut l1, .int x] st h Q := xe_P_lo (ins := .istore_n 2) (len := 1) (by decide +kernel) rfl rfl
theorem xs_129_8 : xe_P d 129 8 [.ref a, l1, l2] st h Q = xe_P d 129 9 [.ref a, l1, l2] (.ref a :: st) h Q := xe_P_lo (ins := .aload_n 0) (len := 1) (by decide +kernel) rfl rfl
theorem xs_129_9 : xe_P d 129 9 [l0, l1, .int x] st h Q = xe_P d 129 10 [l0, l1, .int x] (.int x :: st) h Q := xe_P_lo (ins := .iload_n 2) (len := 1) (by decide +kernel) rfl rfl
theorem xs_129_10 : xe_P d 129 10 [.ref a, l1, l2] st h Q = xe_P d 129 11 [.ref a, l1, l2] (.ref a :: st) h Q := xe_P_lo (ins := .aload_n 0) (len := 1) (by decide +kernel) rfl rfl
theorem xs_129_11 : xe_P d 129 11 ls (.ref a :: st) h Q = (xe_ob h a 7 ∧ xe_P d 129 14 ls (.int (xe_I h a 6) :: st) h Q) := xe_P_getI (i := 136) (by decide +kernel) (by decide +kernel) (by decide) rfl
theorem xs_129_14 : xe_P d 129 14 ls (.int v :: .int x :: st) h Q = (if x ≤ v then xe_P d 129 21 ls st h Q else xe_P d 129 17 ls st h Q) := xe_P_if (ins := .if_icmp .le 7) (len := 3) (off := 7) (by decide +kernel) (by decide) rfl rfl rfl
theorem xs_129_17 : xe_P d 129 17 [l0, l1, .int x] st h Q = xe_P d 129 18 [l0, l1, .int x] (.int x :: st) h Q := xe_P_lo (ins := .iload_n 2) (len := 1) (by decide +kernel) rfl rfl
theorem xs_129_18 : xe_P d 129 18 ls st h Q = xe_P d 129 25 ls st h Q := xe_P_go (len := 3) (off := 7) (by decide +kernel) (by decide)
theorem xs_129_21 : xe_P d 129 21 [.ref a, l1, l2] st h Q = xe_P d 129 22 [.ref a, l1, l2] (.ref a :: st) h Q := xe_P_lo (ins := .aload_n 0) (len := 1) (by decide +kernel) rfl rfl
theorem xs_129_22 : xe_P d 129 22 ls (.ref a :: st) h Q = (xe_ob h a 7 ∧ xe_P d 129 25 ls (.int (xe_I h a 6) :: st) h Q) := xe_P_getI (i := 136) (by decide +kernel) (by decide +kernel) (by decide) rfl
theorem xs_129_25 : xe_P d 129 25 ls (.int v :: .ref a :: st) h Q = (xe_ob h a 7 ∧ xe_P d 129 28 ls st (xe_sI h a 6 v) Q) := xe_P_putI (i := 136) (by decide +kernel) (by decide +kernel) (by decide) (by decide +kernel) rfl
theorem xs_129_28 : xe_P d 129 28 [l0, l1, .int x] st h Q = xe_P d 129 29 [l0, l1, .int x] (.int x :: st) h Q := xe_P_lo (ins := .iload_n 2) (len := 1) (by decide +kernel) rfl rfl
theorem xs_129_29 : xe_P d 129 29 ls [.int x] h Q = Q (some (.int x)) h := xe_P_ireturn (by decide +kernel) rfl
theorem xs_129 : xe_C (d + 1) 129 [.ref a, .int x0] h Q = xe_P d 129 0 [.ref a, .int x0, .retAddr 0] [] h Q := xe_C_at (Nat.le_of_ble_eq_true rfl) rfl
theorem xs_130_0 : xe_P d 130 0 [.ref a, l1] st h Q = xe_P d 130 1 [.ref a, l1] (.ref a :: st) h Q := xe_P_lo (ins := .aload_n 0) (len := 1) (by decide +kernel) rfl rfl
theorem xs_130_1 : xe_P d 130 1 ls (.ref a :: st) h Q = (xe_ob h a 7 ∧ xe_P d 130 4 ls (va_rf (xe_R h a 2) :: st) h Q) := xe_P_getR (i := 17) (by decide +kernel) (by decide +kernel) (by decide) rfl
theorem xs_130_4 : xe_P d 130 4 ls st h Q = xe_P d 130 6 ls (.int 24 :: st) h Q := xe_P_ar (ins := .bipush 24) (len := 2) (by decide +kernel) rfl
theorem xs_130_6 : xe_P d 130 6 ls (.int v :: .ref a :: st) h Q = ((xe_ia h a ∧ xe_ix h a v) ∧ xe_P d 130 7 ls (.int (xe_I h a v.toNatClampNeg) :: st) h Q) := xe_P_iald (by decide +kernel)
theorem xs_130_7 : xe_P d 130 7 [l0, l1] (.int x :: st) h Q = xe_P d 130 8 [xe_cut l0, .int x] st h Q := xe_P_lo (ins := .istore_n 1) (len := 1) (by decide +kernel) rfl rfl
theorem xs_130_8 : xe_P d 130 8 [l0, .int x] st h Q = xe_P d 130 9 [l0, .int x] (.int x :: st) h Q := xe_P_lo (ins := .iload_n 1) (len := 1) (by decide +kernel) rfl rfl
theorem xs_130_9 : xe_P d 130 9 ls st h Q = xe_P d 130 11 ls (.int 6 :: st) h Q := xe_P_ar (ins := .bipush 6) (len := 2) (by decide +kernel) rfl
theorem xs_130_11 : xe_P d 130 11 ls (.int v :: .int x :: st) h Q = (if x = v then xe_P d 130 14 ls st h Q else xe_P d 130 20 ls st h Q) := xe_P_ifn (ins := .if_icmp .ne 9) (len := 3) (off := 9) (by decide +kernel) (by decide) rfl rfl rfl
theorem xs_130_14 : xe_P d 130 14 [.ref a, l1] st h Q = xe_P d 130 15 [.ref a, l1] (.ref a :: st) h Q := xe_P_lo (ins := .aload_n 0) (len := 1) (by decide +kernel) rfl rfl
theorem xs_130_15 : xe_P d 130 15 ls st h Q = xe_P d 130 16 ls (.int 5 :: st) h Q := xe_P_ar (ins := .iconst 5) (len := 1) (by decide +kernel) rfl
theorem xs_130_16 : xe_P d 130 16 ls (v0 :: .ref a :: st) h Q = ((xe_w st ≤ 8 ∧ xe_ob h a 7) ∧ xe_C d 124 [.ref a, v0] h (fun r h' => xe_P d 130 19 ls (r.toList ++ st) h' Q)) := xe_P_ivv (y := 130) (pc := 16) (z := 124) (i := 122) (vs := [v0]) (by decide +kernel) (by decide +kernel) rfl (by decide +kernel)
theorem xs_130_19 : xe_P d 130 19 ls [] h Q = Q none h := xe_P_vreturn (by decide +kernel) rfl
theorem xs_130_20 : xe_P d 130 20 [.ref a, l1] st h Q = xe_P d 130 21 [.ref a, l1] (.ref a :: st) h Q := xe_P_lo (ins := .aload_n 0) (len := 1) (by decide +kernel) rfl rfl
theorem xs_130_21 : xe_P d 130 21 ls (.ref a :: st) h Q = ((xe_w st ≤ 8 ∧ xe_ob h a 7) ∧ xe_C d 126 [.ref a] h (fun r h' => xe_P d 130 24 ls (r.toList ++ st) h' Q)) := xe_P_ivv (y := 130) (pc := 21) (z := 126) (i := 126) (vs := []) (by decide +kernel) (by decide +kernel) rfl (by decide +kernel)
theorem xs_130_24 : xe_P d 130 24 [.ref a, l1] st h Q = xe_P d 130 25 [.ref a, l1] (.ref a :: st) h Q := xe_P_lo (ins := .aload_n 0) (len := 1) (by decide +kernel) rfl rfl
theorem xs_130_25 : xe_P d 130 25 ls (.ref a :: st) h Q = (xe_ob h a 7 ∧ xe_P d 130 28 ls (va_rf (xe_R h a 2) :: st) h Q) := xe_P_getR (i := 17) (by decide +kernel) (by decide +kernel) (by decide) rfl
theorem xs_130_28 : xe_P d 130 28 ls st h Q = xe_P d 130 29 ls (.int 4 :: st) h Q := xe_P_ar (ins := .iconst 4) (len := 1) (by decide +kernel) rfl
theorem xs_130_29 : xe_P d 130 29 [l0, .int x] st h Q = xe_P d 130 30 [l0, .int x] (.int x :: st) h Q := xe_P_lo (ins := .iload_n 1) (len := 1) (by decide +kernel) rfl rfl
theorem xs_130_30 : xe_P d 130 30 ls (.int v :: .int x :: st) h Q = xe_P d 130 31 ls (.int (x * v) :: st) h Q := xe_P_ar (ins := .imul) (len := 1) (by decide +kernel) rfl
theorem xs_130_31 : xe_P d 130 31 [.ref a, l1] st h Q = xe_P d 130 32 [.ref a, l1] (.ref a :: st) h Q := xe_P_lo (ins := .aload_n 0) (len := 1) (by decide +kernel) rfl rfl
theorem xs_130_32 : xe_P d 130 32 ls st h Q = xe_P d 130 33 ls (.int 0 :: st) h Q := xe_P_ar (ins := .iconst 0) (len := 1) (by decide +kernel) rfl
theorem xs_130_33 : xe_P d 130 33 ls (v0 :: .ref a :: st) h Q = ((xe_w st ≤ 8 ∧ xe_ob h a 7) ∧ xe_C d 128 [.ref a, v0] h (fun r h' => xe_P d 130 36 ls (r.toList ++ st) h' Q)) := xe_P_ivv (y := 130) (pc := 33) (z := 128) (i := 139) (vs := [v0]) (by decide +kernel) (by decide +kernel) rfl (by decide +kernel)
theorem xs_130_36 : xe_P d 130 36 ls (.int x :: .int v :: .ref a :: st) h Q = ((xe_ob h a 8 ∧ xe_ix h a v) ∧ xe_P d 130 37 ls st (xe_sI h a v.toNatClampNeg x) Q) := xe_P_iast (by decide +kernel)
theorem xs_130_37 : xe_P d 130 37 [.ref a, l1] st h Q = xe_P d 130 38 [.ref a, l1] (.ref a :: st) h Q := xe_P_lo (ins := .aload_n 0) (len := 1) (by decide +kernel) rfl rfl
theorem xs_130_38 : xe_P d 130 38 ls (.ref a :: st) h Q = (xe_ob h a 7 ∧ xe_P d 130 41 ls (va_rf (xe_R h a 2) :: st) h Q) := xe_P_getR (i := 17) (by decide +kernel) (by decide +kernel) (by decide) rfl
theorem xs_130_41 : xe_P d 130 41 ls st h Q = xe_P d 130 42 ls (.int 4 :: st) h Q := xe_P_ar (ins := .iconst 4) (len := 1) (by decide +kernel) rfl
theorem xs_130_42 : xe_P d 130 42 [l0, .int x] st h Q = xe_P d 130 43 [l0, .int x] (.int x :: st) h Q := xe_P_lo (ins := .iload_n 1) (len := 1) (by decide +kernel) rfl rfl
theorem xs_130_43 : xe_P d 130 43 ls (.int v :: .int x :: st) h Q = xe_P d 130 44 ls (.int (x * v) :: st) h Q := xe_P_ar (ins := .imul) (len := 1) (by decide +kernel) rfl
theorem xs_130_44 : xe_P d 130 44 ls st h Q = xe_P d 130 45 ls (.int 1 :: st) h Q := xe_P_ar (ins := .iconst 1) (len := 1) (by decide +kernel) rfl
theorem xs_130_45 : xe_P d 130 45 ls (.int v :: .int x :: st) h Q = xe_P d 130 46 ls (.int (x + v) :: st) h Q := xe_P_ar (ins := .iadd) (len := 1) (by decide +kernel) rfl
theorem xs_130_46 : xe_P d 130 46 [.ref a, l1] st h Q = xe_P d 130 47 [.ref a, l1] (.ref a :: st) h Q := xe_P_lo (ins := .aload_n 0) (len := 1) (by decide +kernel) rfl rfl
theorem xs_130_47 : xe_P d 130 47 ls st h Q = xe_P d 130 48 ls (.int 1 :: st) h Q := xe_P_ar (ins := .iconst 1) (len := 1) (by decide +kernel) rfl
theorem xs_130_48 : xe_P d 130 48 [.ref a, l1] st h Q = xe_P d 130 49 [.ref a, l1] (.ref a :: st) h Q := xe_P_lo (ins := .aload_n 0) (len := 1) (by decide +kernel) rfl rfl
theorem xs_130_49 : xe_P d 130 49 ls (.ref a :: st) h Q = (xe_ob h a 7 ∧ xe_P d 130 52 ls (va_rf (xe_R h a 2) :: st) h Q) := xe_P_getR (i := 17) (by decide +kernel) (by decide +kernel) (by decide) rfl
theorem xs_130_52 : xe_P d 130 52 ls st h Q = xe_P d 130 53 ls (.int 4 :: st) h Q := xe_P_ar (ins := .iconst 4) (len := 1) (by decide +kernel) rfl
theorem xs_130_53 : xe_P d 130 53 [l0, .int x] st h Q = xe_P d 130 54 [l0, .int x] (.int x :: st) h Q := xe_P_lo (ins := .iload_n 1) (len := 1) (by decide +kernel) rfl rfl
theorem xs_130_54 : xe_P d 130 54 ls (.int v :: .int x :: st) h Q = xe_P d 130 55 ls (.int (x * v) :: st) h Q := xe_P_ar (ins := .imul) (len := 1) (by decide +kernel) rfl
theorem xs_130_55 : xe_P d 130 55 ls (.int v :: .ref a :: st) h Q = ((xe_ia h a ∧ xe_ix h a v) ∧ xe_P d 130 56 ls (.int (xe_I h a v.toNatClampNeg) :: st) h Q) := xe_P_iald (by decide +kernel)
theorem xs_130_56 : xe_P d 130 56 ls (.int v :: .int x :: st) h Q = xe_P d 130 57 ls (.int (x <<< (v &&& 31)) :: st) h Q := xe_P_ar (ins := .ishl) (len := 1) (by decide +kernel) rfl
theorem xs_130_57 : xe_P d 130 57 ls (v0 :: .ref a :: st) h Q = ((xe_w st ≤ 8 ∧ xe_ob h a 7) ∧ xe_C d 128 [.ref a, v0] h (fun r h' => xe_P d 130 60 ls (r.toList ++ st) h' Q)) := xe_P_ivv (y := 130) (pc := 57) (z := 128) (i := 139) (vs := [v0]) (by decide +kernel) (by decide +kernel) rfl (by decide +kernel)
theorem xs_130_60 : xe_P d 130 60 ls (.int x :: .int v :: .ref a :: st) h Q = ((xe_ob h a 8 ∧ xe_ix h a v) ∧ xe_P d 130 61 ls st (xe_sI h a v.toNatClampNeg x) Q) := xe_P_iast (by decide +kernel)
theorem xs_130_61 : xe_P d 130 61 [.ref a, l1] st h Q = xe_P d 130 62 [.ref a, l1] (.ref a :: st) h Q := xe_P_lo (ins := .aload_n 0) (len := 1) (by decide +kernel) rfl rfl
theorem xs_130_62 : xe_P d 130 62 ls (.ref a :: st) h Q = (xe_ob h a 7 ∧ xe_P d 130 65 ls (va_rf (xe_R h a 2) :: st) h Q) := xe_P_getR (i := 17) (by decide +kernel) (by decide +kernel) (by decide) rfl
theorem xs_130_65 : xe_P d 130 65 ls st h Q = xe_P d 130 67 ls (.int 24 :: st) h Q := xe_P_ar (ins := .bipush 24) (len := 2) (by decide +kernel) rfl
theorem xs_130_67 : xe_P d 130 67 ls (.int v :: .ref a :: st) h Q = xe_P d 130 68 ls (.int v :: .ref a :: .int v :: .ref a :: st) h Q := xe_P_ar (ins := .dup2) (len := 1) (by decide +kernel) rfl
theorem xs_130_68 : xe_P d 130 68 ls (.int v :: .ref a :: st) h Q = ((xe_ia h a ∧ xe_ix h a v) ∧ xe_P d 130 69 ls (.int (xe_I h a v.toNatClampNeg) :: st) h Q) := xe_P_iald (by decide +kernel)
theorem xs_130_69 : xe_P d 130 69 ls st h Q = xe_P d 130 70 ls (.int 1 :: st) h Q := xe_P_ar (ins := .iconst 1) (len := 1) (by decide +kernel) rfl
theorem xs_130_70 : xe_P d 130 70 ls (.int v :: .int x :: st) h Q = xe_P d 130 71 ls (.int (x + v) :: st) h Q := xe_P_ar (ins := .iadd) (len := 1) (by decide +kernel) rfl
theorem xs_130_71 : xe_P d 130 71 ls (.int x :: .int v :: .ref a :: st) h Q = ((xe_ob h a 8 ∧ xe_ix h a v) ∧ xe_P d 130 72 ls st (xe_sI h a v.toNatClampNeg x) Q) := xe_P_iast (by decide +kernel)
theorem xs_130_72 : xe_P d 130 72 ls [] h Q = Q none h := xe_P_vreturn (by decide +kernel) rfl
theorem xs_130 : xe_C (d + 1) 130 [.ref a] h Q = xe_P d 130 0 [.ref a, .retAddr 0] [] h Q := xe_C_at (Nat.le_of_ble_eq_true rfl) rfl
end XSX7a
