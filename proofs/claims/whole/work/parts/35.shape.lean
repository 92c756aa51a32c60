/-! the cells of the whole, by address: kind and size; the references that never change (the queue of Ways and the towns of Teller, Ways, Plays are apart) -/
def shT : List (Nat × Nat × Nat) := [(0, 6, 10), (1, 3, 12), (2, 8, 6), (3, 8, 6), (4, 8, 6), (5, 8, 3), (6, 8, 3), (7, 3, 12), (8, 8, 6), (9, 8, 6), (10, 8, 6), (11, 8, 3), (12, 8, 3), (13, 12, 2), (14, 3, 12), (15, 8, 6), (16, 8, 6), (17, 8, 6), (18, 8, 3), (19, 8, 3), (20, 3, 12), (21, 8, 6), (22, 8, 6), (23, 8, 6), (24, 8, 3), (25, 8, 3), (26, 11, 2), (27, 2, 12), (28, 10, 320), (29, 5, 10), (30, 9, 1600), (32, 8, 7), (33, 0, 7), (34, 8, 6), (35, 8, 6), (36, 4, 13), (37, 8, 6), (38, 8, 6), (39, 8, 6), (40, 11, 6), (41, 8, 6), (42, 8, 42), (43, 8, 42), (44, 1, 3), (45, 8, 160), (46, 8, 4), (47, 8, 4), (48, 7, 41), (49, 8, 140), (50, 8, 35), (51, 8, 6), (52, 8, 6), (53, 8, 320), (54, 8, 8), (55, 8, 31), (56, 8, 6), (57, 8, 102400), (58, 8, 102400), (59, 8, 1000), (60, 8, 10), (61, 8, 10), (62, 8, 10), (63, 8, 10), (64, 8, 18), (65, 8, 6), (66, 8, 70), (67, 8, 70), (68, 11, 2), (69, 8, 4), (70, 8, 4), (71, 8, 160)]
def shR : List (Nat × Nat × Nat) := [(1, 7, 2), (1, 8, 3), (1, 9, 4), (1, 10, 5), (1, 11, 6), (0, 0, 1), (7, 7, 8), (7, 8, 9), (7, 9, 10), (7, 10, 11), (7, 11, 12), (0, 1, 7), (0, 2, 13), (14, 7, 15), (14, 8, 16), (14, 9, 17), (14, 10, 18), (14, 11, 19), (13, 0, 14), (20, 7, 21), (20, 8, 22), (20, 9, 23), (20, 10, 24), (20, 11, 25), (13, 1, 20), (0, 3, 26), (0, 4, 27), (27, 0, 28), (0, 5, 29), (29, 0, 30), (29, 3, 32), (0, 6, 33), (33, 1, 34), (33, 2, 35), (0, 7, 36), (36, 2, 37), (36, 3, 38), (36, 4, 39), (36, 5, 40), (36, 6, 41), (36, 7, 42), (36, 8, 43), (0, 8, 44), (44, 0, 45), (44, 1, 46), (44, 2, 47), (48, 0, 49), (48, 2, 50), (48, 9, 51), (48, 10, 52), (48, 11, 53), (48, 20, 54), (48, 21, 55), (48, 22, 56), (48, 23, 57), (48, 24, 58), (48, 26, 59), (48, 27, 60), (48, 28, 61), (48, 29, 62), (48, 30, 63), (48, 31, 64), (48, 33, 65), (48, 34, 66), (48, 35, 67), (48, 36, 68), (48, 37, 69), (48, 38, 70), (48, 39, 71)]
def sh (h : xe_H) : Prop := (72 ≤ xe_n h ∧ xe_n h ≤ xe_S) ∧ (∀ e ∈ shT, xe_T h e.1 = e.2.1 ∧ xe_N h e.1 = e.2.2) ∧ (∀ e ∈ shR, xe_R h e.1 e.2.1 = some e.2.2)
theorem sh_sI (h : xe_H) (a k : Nat) (v : Int32) : sh (xe_sI h a k v) = sh h := rfl
theorem sh_aI (h : xe_H) (a : Nat) (f : Nat → Int32) : sh (xe_aI h a f) = sh h := rfl
theorem sh_sL (h : xe_H) (a k : Nat) (v : Int64) : sh (xe_sL2 h a k v) = sh h := rfl
theorem sh_aL (h : xe_H) (a : Nat) (f : Nat → Int64) : sh (xe_aL2 h a f) = sh h := rfl
theorem sh_n {h : xe_H} (H : sh h) : xe_n h ≤ xe_S := H.1.2
section SH
variable {h : xe_H}
theorem sT_0 (H : sh h) : xe_ob h 0 6 := ⟨Nat.lt_of_lt_of_le (by decide) H.1.1, (H.2.1 (0, 6, 10) (by decide)).1⟩
theorem sT_1 (H : sh h) : xe_ob h 1 3 := ⟨Nat.lt_of_lt_of_le (by decide) H.1.1, (H.2.1 (1, 3, 12) (by decide)).1⟩
theorem sT_2 (H : sh h) : xe_ob h 2 8 := ⟨Nat.lt_of_lt_of_le (by decide) H.1.1, (H.2.1 (2, 8, 6) (by decide)).1⟩
theorem sN_2 (H : sh h) : xe_N h 2 = 6 := (H.2.1 (2, 8, 6) (by decide)).2
theorem sA_2 (H : sh h) : xe_ia h 2 := ob_ia (sT_2 H)
theorem sT_3 (H : sh h) : xe_ob h 3 8 := ⟨Nat.lt_of_lt_of_le (by decide) H.1.1, (H.2.1 (3, 8, 6) (by decide)).1⟩
theorem sN_3 (H : sh h) : xe_N h 3 = 6 := (H.2.1 (3, 8, 6) (by decide)).2
theorem sA_3 (H : sh h) : xe_ia h 3 := ob_ia (sT_3 H)
theorem sT_4 (H : sh h) : xe_ob h 4 8 := ⟨Nat.lt_of_lt_of_le (by decide) H.1.1, (H.2.1 (4, 8, 6) (by decide)).1⟩
theorem sN_4 (H : sh h) : xe_N h 4 = 6 := (H.2.1 (4, 8, 6) (by decide)).2
theorem sA_4 (H : sh h) : xe_ia h 4 := ob_ia (sT_4 H)
theorem sT_5 (H : sh h) : xe_ob h 5 8 := ⟨Nat.lt_of_lt_of_le (by decide) H.1.1, (H.2.1 (5, 8, 3) (by decide)).1⟩
theorem sN_5 (H : sh h) : xe_N h 5 = 3 := (H.2.1 (5, 8, 3) (by decide)).2
theorem sA_5 (H : sh h) : xe_ia h 5 := ob_ia (sT_5 H)
theorem sT_6 (H : sh h) : xe_ob h 6 8 := ⟨Nat.lt_of_lt_of_le (by decide) H.1.1, (H.2.1 (6, 8, 3) (by decide)).1⟩
theorem sN_6 (H : sh h) : xe_N h 6 = 3 := (H.2.1 (6, 8, 3) (by decide)).2
theorem sA_6 (H : sh h) : xe_ia h 6 := ob_ia (sT_6 H)
theorem sT_7 (H : sh h) : xe_ob h 7 3 := ⟨Nat.lt_of_lt_of_le (by decide) H.1.1, (H.2.1 (7, 3, 12) (by decide)).1⟩
theorem sT_8 (H : sh h) : xe_ob h 8 8 := ⟨Nat.lt_of_lt_of_le (by decide) H.1.1, (H.2.1 (8, 8, 6) (by decide)).1⟩
theorem sN_8 (H : sh h) : xe_N h 8 = 6 := (H.2.1 (8, 8, 6) (by decide)).2
theorem sA_8 (H : sh h) : xe_ia h 8 := ob_ia (sT_8 H)
theorem sT_9 (H : sh h) : xe_ob h 9 8 := ⟨Nat.lt_of_lt_of_le (by decide) H.1.1, (H.2.1 (9, 8, 6) (by decide)).1⟩
theorem sN_9 (H : sh h) : xe_N h 9 = 6 := (H.2.1 (9, 8, 6) (by decide)).2
theorem sA_9 (H : sh h) : xe_ia h 9 := ob_ia (sT_9 H)
theorem sT_10 (H : sh h) : xe_ob h 10 8 := ⟨Nat.lt_of_lt_of_le (by decide) H.1.1, (H.2.1 (10, 8, 6) (by decide)).1⟩
theorem sN_10 (H : sh h) : xe_N h 10 = 6 := (H.2.1 (10, 8, 6) (by decide)).2
theorem sA_10 (H : sh h) : xe_ia h 10 := ob_ia (sT_10 H)
theorem sT_11 (H : sh h) : xe_ob h 11 8 := ⟨Nat.lt_of_lt_of_le (by decide) H.1.1, (H.2.1 (11, 8, 3) (by decide)).1⟩
theorem sN_11 (H : sh h) : xe_N h 11 = 3 := (H.2.1 (11, 8, 3) (by decide)).2
theorem sA_11 (H : sh h) : xe_ia h 11 := ob_ia (sT_11 H)
theorem sT_12 (H : sh h) : xe_ob h 12 8 := ⟨Nat.lt_of_lt_of_le (by decide) H.1.1, (H.2.1 (12, 8, 3) (by decide)).1⟩
theorem sN_12 (H : sh h) : xe_N h 12 = 3 := (H.2.1 (12, 8, 3) (by decide)).2
theorem sA_12 (H : sh h) : xe_ia h 12 := ob_ia (sT_12 H)
theorem sT_13 (H : sh h) : xe_ob h 13 12 := ⟨Nat.lt_of_lt_of_le (by decide) H.1.1, (H.2.1 (13, 12, 2) (by decide)).1⟩
theorem sN_13 (H : sh h) : xe_N h 13 = 2 := (H.2.1 (13, 12, 2) (by decide)).2
theorem sT_14 (H : sh h) : xe_ob h 14 3 := ⟨Nat.lt_of_lt_of_le (by decide) H.1.1, (H.2.1 (14, 3, 12) (by decide)).1⟩
theorem sT_15 (H : sh h) : xe_ob h 15 8 := ⟨Nat.lt_of_lt_of_le (by decide) H.1.1, (H.2.1 (15, 8, 6) (by decide)).1⟩
theorem sN_15 (H : sh h) : xe_N h 15 = 6 := (H.2.1 (15, 8, 6) (by decide)).2
theorem sA_15 (H : sh h) : xe_ia h 15 := ob_ia (sT_15 H)
theorem sT_16 (H : sh h) : xe_ob h 16 8 := ⟨Nat.lt_of_lt_of_le (by decide) H.1.1, (H.2.1 (16, 8, 6) (by decide)).1⟩
theorem sN_16 (H : sh h) : xe_N h 16 = 6 := (H.2.1 (16, 8, 6) (by decide)).2
theorem sA_16 (H : sh h) : xe_ia h 16 := ob_ia (sT_16 H)
theorem sT_17 (H : sh h) : xe_ob h 17 8 := ⟨Nat.lt_of_lt_of_le (by decide) H.1.1, (H.2.1 (17, 8, 6) (by decide)).1⟩
theorem sN_17 (H : sh h) : xe_N h 17 = 6 := (H.2.1 (17, 8, 6) (by decide)).2
theorem sA_17 (H : sh h) : xe_ia h 17 := ob_ia (sT_17 H)
theorem sT_18 (H : sh h) : xe_ob h 18 8 := ⟨Nat.lt_of_lt_of_le (by decide) H.1.1, (H.2.1 (18, 8, 3) (by decide)).1⟩
theorem sN_18 (H : sh h) : xe_N h 18 = 3 := (H.2.1 (18, 8, 3) (by decide)).2
theorem sA_18 (H : sh h) : xe_ia h 18 := ob_ia (sT_18 H)
theorem sT_19 (H : sh h) : xe_ob h 19 8 := ⟨Nat.lt_of_lt_of_le (by decide) H.1.1, (H.2.1 (19, 8, 3) (by decide)).1⟩
theorem sN_19 (H : sh h) : xe_N h 19 = 3 := (H.2.1 (19, 8, 3) (by decide)).2
theorem sA_19 (H : sh h) : xe_ia h 19 := ob_ia (sT_19 H)
theorem sT_20 (H : sh h) : xe_ob h 20 3 := ⟨Nat.lt_of_lt_of_le (by decide) H.1.1, (H.2.1 (20, 3, 12) (by decide)).1⟩
theorem sT_21 (H : sh h) : xe_ob h 21 8 := ⟨Nat.lt_of_lt_of_le (by decide) H.1.1, (H.2.1 (21, 8, 6) (by decide)).1⟩
theorem sN_21 (H : sh h) : xe_N h 21 = 6 := (H.2.1 (21, 8, 6) (by decide)).2
theorem sA_21 (H : sh h) : xe_ia h 21 := ob_ia (sT_21 H)
theorem sT_22 (H : sh h) : xe_ob h 22 8 := ⟨Nat.lt_of_lt_of_le (by decide) H.1.1, (H.2.1 (22, 8, 6) (by decide)).1⟩
theorem sN_22 (H : sh h) : xe_N h 22 = 6 := (H.2.1 (22, 8, 6) (by decide)).2
theorem sA_22 (H : sh h) : xe_ia h 22 := ob_ia (sT_22 H)
theorem sT_23 (H : sh h) : xe_ob h 23 8 := ⟨Nat.lt_of_lt_of_le (by decide) H.1.1, (H.2.1 (23, 8, 6) (by decide)).1⟩
theorem sN_23 (H : sh h) : xe_N h 23 = 6 := (H.2.1 (23, 8, 6) (by decide)).2
theorem sA_23 (H : sh h) : xe_ia h 23 := ob_ia (sT_23 H)
theorem sT_24 (H : sh h) : xe_ob h 24 8 := ⟨Nat.lt_of_lt_of_le (by decide) H.1.1, (H.2.1 (24, 8, 3) (by decide)).1⟩
theorem sN_24 (H : sh h) : xe_N h 24 = 3 := (H.2.1 (24, 8, 3) (by decide)).2
theorem sA_24 (H : sh h) : xe_ia h 24 := ob_ia (sT_24 H)
theorem sT_25 (H : sh h) : xe_ob h 25 8 := ⟨Nat.lt_of_lt_of_le (by decide) H.1.1, (H.2.1 (25, 8, 3) (by decide)).1⟩
theorem sN_25 (H : sh h) : xe_N h 25 = 3 := (H.2.1 (25, 8, 3) (by decide)).2
theorem sA_25 (H : sh h) : xe_ia h 25 := ob_ia (sT_25 H)
theorem sT_26 (H : sh h) : xe_ob h 26 11 := ⟨Nat.lt_of_lt_of_le (by decide) H.1.1, (H.2.1 (26, 11, 2) (by decide)).1⟩
theorem sN_26 (H : sh h) : xe_N h 26 = 2 := (H.2.1 (26, 11, 2) (by decide)).2
theorem sB_26 (H : sh h) : xe_ba h 26 := Or.inr ⟨(sT_26 H).2, (sT_26 H).1⟩
theorem sT_27 (H : sh h) : xe_ob h 27 2 := ⟨Nat.lt_of_lt_of_le (by decide) H.1.1, (H.2.1 (27, 2, 12) (by decide)).1⟩
theorem sT_28 (H : sh h) : xe_ob h 28 10 := ⟨Nat.lt_of_lt_of_le (by decide) H.1.1, (H.2.1 (28, 10, 320) (by decide)).1⟩
theorem sN_28 (H : sh h) : xe_N h 28 = 320 := (H.2.1 (28, 10, 320) (by decide)).2
theorem sB_28 (H : sh h) : xe_ba h 28 := Or.inl ⟨(sT_28 H).2, Or.inl (sT_28 H).1⟩
theorem sT_29 (H : sh h) : xe_ob h 29 5 := ⟨Nat.lt_of_lt_of_le (by decide) H.1.1, (H.2.1 (29, 5, 10) (by decide)).1⟩
theorem sT_30 (H : sh h) : xe_ob h 30 9 := ⟨Nat.lt_of_lt_of_le (by decide) H.1.1, (H.2.1 (30, 9, 1600) (by decide)).1⟩
theorem sN_30 (H : sh h) : xe_N h 30 = 1600 := (H.2.1 (30, 9, 1600) (by decide)).2
theorem sT_32 (H : sh h) : xe_ob h 32 8 := ⟨Nat.lt_of_lt_of_le (by decide) H.1.1, (H.2.1 (32, 8, 7) (by decide)).1⟩
theorem sN_32 (H : sh h) : xe_N h 32 = 7 := (H.2.1 (32, 8, 7) (by decide)).2
theorem sA_32 (H : sh h) : xe_ia h 32 := ob_ia (sT_32 H)
theorem sT_33 (H : sh h) : xe_ob h 33 0 := ⟨Nat.lt_of_lt_of_le (by decide) H.1.1, (H.2.1 (33, 0, 7) (by decide)).1⟩
theorem sT_34 (H : sh h) : xe_ob h 34 8 := ⟨Nat.lt_of_lt_of_le (by decide) H.1.1, (H.2.1 (34, 8, 6) (by decide)).1⟩
theorem sN_34 (H : sh h) : xe_N h 34 = 6 := (H.2.1 (34, 8, 6) (by decide)).2
theorem sA_34 (H : sh h) : xe_ia h 34 := ob_ia (sT_34 H)
theorem sT_35 (H : sh h) : xe_ob h 35 8 := ⟨Nat.lt_of_lt_of_le (by decide) H.1.1, (H.2.1 (35, 8, 6) (by decide)).1⟩
theorem sN_35 (H : sh h) : xe_N h 35 = 6 := (H.2.1 (35, 8, 6) (by decide)).2
theorem sA_35 (H : sh h) : xe_ia h 35 := ob_ia (sT_35 H)
theorem sT_36 (H : sh h) : xe_ob h 36 4 := ⟨Nat.lt_of_lt_of_le (by decide) H.1.1, (H.2.1 (36, 4, 13) (by decide)).1⟩
theorem sT_37 (H : sh h) : xe_ob h 37 8 := ⟨Nat.lt_of_lt_of_le (by decide) H.1.1, (H.2.1 (37, 8, 6) (by decide)).1⟩
theorem sN_37 (H : sh h) : xe_N h 37 = 6 := (H.2.1 (37, 8, 6) (by decide)).2
theorem sA_37 (H : sh h) : xe_ia h 37 := ob_ia (sT_37 H)
theorem sT_38 (H : sh h) : xe_ob h 38 8 := ⟨Nat.lt_of_lt_of_le (by decide) H.1.1, (H.2.1 (38, 8, 6) (by decide)).1⟩
theorem sN_38 (H : sh h) : xe_N h 38 = 6 := (H.2.1 (38, 8, 6) (by decide)).2
theorem sA_38 (H : sh h) : xe_ia h 38 := ob_ia (sT_38 H)
theorem sT_39 (H : sh h) : xe_ob h 39 8 := ⟨Nat.lt_of_lt_of_le (by decide) H.1.1, (H.2.1 (39, 8, 6) (by decide)).1⟩
theorem sN_39 (H : sh h) : xe_N h 39 = 6 := (H.2.1 (39, 8, 6) (by decide)).2
theorem sA_39 (H : sh h) : xe_ia h 39 := ob_ia (sT_39 H)
theorem sT_40 (H : sh h) : xe_ob h 40 11 := ⟨Nat.lt_of_lt_of_le (by decide) H.1.1, (H.2.1 (40, 11, 6) (by decide)).1⟩
theorem sN_40 (H : sh h) : xe_N h 40 = 6 := (H.2.1 (40, 11, 6) (by decide)).2
theorem sB_40 (H : sh h) : xe_ba h 40 := Or.inr ⟨(sT_40 H).2, (sT_40 H).1⟩
theorem sT_41 (H : sh h) : xe_ob h 41 8 := ⟨Nat.lt_of_lt_of_le (by decide) H.1.1, (H.2.1 (41, 8, 6) (by decide)).1⟩
theorem sN_41 (H : sh h) : xe_N h 41 = 6 := (H.2.1 (41, 8, 6) (by decide)).2
theorem sA_41 (H : sh h) : xe_ia h 41 := ob_ia (sT_41 H)
theorem sT_42 (H : sh h) : xe_ob h 42 8 := ⟨Nat.lt_of_lt_of_le (by decide) H.1.1, (H.2.1 (42, 8, 42) (by decide)).1⟩
theorem sN_42 (H : sh h) : xe_N h 42 = 42 := (H.2.1 (42, 8, 42) (by decide)).2
theorem sA_42 (H : sh h) : xe_ia h 42 := ob_ia (sT_42 H)
theorem sT_43 (H : sh h) : xe_ob h 43 8 := ⟨Nat.lt_of_lt_of_le (by decide) H.1.1, (H.2.1 (43, 8, 42) (by decide)).1⟩
theorem sN_43 (H : sh h) : xe_N h 43 = 42 := (H.2.1 (43, 8, 42) (by decide)).2
theorem sA_43 (H : sh h) : xe_ia h 43 := ob_ia (sT_43 H)
theorem sT_44 (H : sh h) : xe_ob h 44 1 := ⟨Nat.lt_of_lt_of_le (by decide) H.1.1, (H.2.1 (44, 1, 3) (by decide)).1⟩
theorem sT_45 (H : sh h) : xe_ob h 45 8 := ⟨Nat.lt_of_lt_of_le (by decide) H.1.1, (H.2.1 (45, 8, 160) (by decide)).1⟩
theorem sN_45 (H : sh h) : xe_N h 45 = 160 := (H.2.1 (45, 8, 160) (by decide)).2
theorem sA_45 (H : sh h) : xe_ia h 45 := ob_ia (sT_45 H)
theorem sT_46 (H : sh h) : xe_ob h 46 8 := ⟨Nat.lt_of_lt_of_le (by decide) H.1.1, (H.2.1 (46, 8, 4) (by decide)).1⟩
theorem sN_46 (H : sh h) : xe_N h 46 = 4 := (H.2.1 (46, 8, 4) (by decide)).2
theorem sA_46 (H : sh h) : xe_ia h 46 := ob_ia (sT_46 H)
theorem sT_47 (H : sh h) : xe_ob h 47 8 := ⟨Nat.lt_of_lt_of_le (by decide) H.1.1, (H.2.1 (47, 8, 4) (by decide)).1⟩
theorem sN_47 (H : sh h) : xe_N h 47 = 4 := (H.2.1 (47, 8, 4) (by decide)).2
theorem sA_47 (H : sh h) : xe_ia h 47 := ob_ia (sT_47 H)
theorem sT_48 (H : sh h) : xe_ob h 48 7 := ⟨Nat.lt_of_lt_of_le (by decide) H.1.1, (H.2.1 (48, 7, 41) (by decide)).1⟩
theorem sT_49 (H : sh h) : xe_ob h 49 8 := ⟨Nat.lt_of_lt_of_le (by decide) H.1.1, (H.2.1 (49, 8, 140) (by decide)).1⟩
theorem sN_49 (H : sh h) : xe_N h 49 = 140 := (H.2.1 (49, 8, 140) (by decide)).2
theorem sA_49 (H : sh h) : xe_ia h 49 := ob_ia (sT_49 H)
theorem sT_50 (H : sh h) : xe_ob h 50 8 := ⟨Nat.lt_of_lt_of_le (by decide) H.1.1, (H.2.1 (50, 8, 35) (by decide)).1⟩
theorem sN_50 (H : sh h) : xe_N h 50 = 35 := (H.2.1 (50, 8, 35) (by decide)).2
theorem sA_50 (H : sh h) : xe_ia h 50 := ob_ia (sT_50 H)
theorem sT_51 (H : sh h) : xe_ob h 51 8 := ⟨Nat.lt_of_lt_of_le (by decide) H.1.1, (H.2.1 (51, 8, 6) (by decide)).1⟩
theorem sN_51 (H : sh h) : xe_N h 51 = 6 := (H.2.1 (51, 8, 6) (by decide)).2
theorem sA_51 (H : sh h) : xe_ia h 51 := ob_ia (sT_51 H)
theorem sT_52 (H : sh h) : xe_ob h 52 8 := ⟨Nat.lt_of_lt_of_le (by decide) H.1.1, (H.2.1 (52, 8, 6) (by decide)).1⟩
theorem sN_52 (H : sh h) : xe_N h 52 = 6 := (H.2.1 (52, 8, 6) (by decide)).2
theorem sA_52 (H : sh h) : xe_ia h 52 := ob_ia (sT_52 H)
theorem sT_53 (H : sh h) : xe_ob h 53 8 := ⟨Nat.lt_of_lt_of_le (by decide) H.1.1, (H.2.1 (53, 8, 320) (by decide)).1⟩
theorem sN_53 (H : sh h) : xe_N h 53 = 320 := (H.2.1 (53, 8, 320) (by decide)).2
theorem sA_53 (H : sh h) : xe_ia h 53 := ob_ia (sT_53 H)
theorem sT_54 (H : sh h) : xe_ob h 54 8 := ⟨Nat.lt_of_lt_of_le (by decide) H.1.1, (H.2.1 (54, 8, 8) (by decide)).1⟩
theorem sN_54 (H : sh h) : xe_N h 54 = 8 := (H.2.1 (54, 8, 8) (by decide)).2
theorem sA_54 (H : sh h) : xe_ia h 54 := ob_ia (sT_54 H)
theorem sT_55 (H : sh h) : xe_ob h 55 8 := ⟨Nat.lt_of_lt_of_le (by decide) H.1.1, (H.2.1 (55, 8, 31) (by decide)).1⟩
theorem sN_55 (H : sh h) : xe_N h 55 = 31 := (H.2.1 (55, 8, 31) (by decide)).2
theorem sA_55 (H : sh h) : xe_ia h 55 := ob_ia (sT_55 H)
theorem sT_56 (H : sh h) : xe_ob h 56 8 := ⟨Nat.lt_of_lt_of_le (by decide) H.1.1, (H.2.1 (56, 8, 6) (by decide)).1⟩
theorem sN_56 (H : sh h) : xe_N h 56 = 6 := (H.2.1 (56, 8, 6) (by decide)).2
theorem sA_56 (H : sh h) : xe_ia h 56 := ob_ia (sT_56 H)
theorem sT_57 (H : sh h) : xe_ob h 57 8 := ⟨Nat.lt_of_lt_of_le (by decide) H.1.1, (H.2.1 (57, 8, 102400) (by decide)).1⟩
theorem sN_57 (H : sh h) : xe_N h 57 = 102400 := (H.2.1 (57, 8, 102400) (by decide)).2
theorem sA_57 (H : sh h) : xe_ia h 57 := ob_ia (sT_57 H)
theorem sT_58 (H : sh h) : xe_ob h 58 8 := ⟨Nat.lt_of_lt_of_le (by decide) H.1.1, (H.2.1 (58, 8, 102400) (by decide)).1⟩
theorem sN_58 (H : sh h) : xe_N h 58 = 102400 := (H.2.1 (58, 8, 102400) (by decide)).2
theorem sA_58 (H : sh h) : xe_ia h 58 := ob_ia (sT_58 H)
theorem sT_59 (H : sh h) : xe_ob h 59 8 := ⟨Nat.lt_of_lt_of_le (by decide) H.1.1, (H.2.1 (59, 8, 1000) (by decide)).1⟩
theorem sN_59 (H : sh h) : xe_N h 59 = 1000 := (H.2.1 (59, 8, 1000) (by decide)).2
theorem sA_59 (H : sh h) : xe_ia h 59 := ob_ia (sT_59 H)
theorem sT_60 (H : sh h) : xe_ob h 60 8 := ⟨Nat.lt_of_lt_of_le (by decide) H.1.1, (H.2.1 (60, 8, 10) (by decide)).1⟩
theorem sN_60 (H : sh h) : xe_N h 60 = 10 := (H.2.1 (60, 8, 10) (by decide)).2
theorem sA_60 (H : sh h) : xe_ia h 60 := ob_ia (sT_60 H)
theorem sT_61 (H : sh h) : xe_ob h 61 8 := ⟨Nat.lt_of_lt_of_le (by decide) H.1.1, (H.2.1 (61, 8, 10) (by decide)).1⟩
theorem sN_61 (H : sh h) : xe_N h 61 = 10 := (H.2.1 (61, 8, 10) (by decide)).2
theorem sA_61 (H : sh h) : xe_ia h 61 := ob_ia (sT_61 H)
theorem sT_62 (H : sh h) : xe_ob h 62 8 := ⟨Nat.lt_of_lt_of_le (by decide) H.1.1, (H.2.1 (62, 8, 10) (by decide)).1⟩
theorem sN_62 (H : sh h) : xe_N h 62 = 10 := (H.2.1 (62, 8, 10) (by decide)).2
theorem sA_62 (H : sh h) : xe_ia h 62 := ob_ia (sT_62 H)
theorem sT_63 (H : sh h) : xe_ob h 63 8 := ⟨Nat.lt_of_lt_of_le (by decide) H.1.1, (H.2.1 (63, 8, 10) (by decide)).1⟩
theorem sN_63 (H : sh h) : xe_N h 63 = 10 := (H.2.1 (63, 8, 10) (by decide)).2
theorem sA_63 (H : sh h) : xe_ia h 63 := ob_ia (sT_63 H)
theorem sT_64 (H : sh h) : xe_ob h 64 8 := ⟨Nat.lt_of_lt_of_le (by decide) H.1.1, (H.2.1 (64, 8, 18) (by decide)).1⟩
theorem sN_64 (H : sh h) : xe_N h 64 = 18 := (H.2.1 (64, 8, 18) (by decide)).2
theorem sA_64 (H : sh h) : xe_ia h 64 := ob_ia (sT_64 H)
theorem sT_65 (H : sh h) : xe_ob h 65 8 := ⟨Nat.lt_of_lt_of_le (by decide) H.1.1, (H.2.1 (65, 8, 6) (by decide)).1⟩
theorem sN_65 (H : sh h) : xe_N h 65 = 6 := (H.2.1 (65, 8, 6) (by decide)).2
theorem sA_65 (H : sh h) : xe_ia h 65 := ob_ia (sT_65 H)
theorem sT_66 (H : sh h) : xe_ob h 66 8 := ⟨Nat.lt_of_lt_of_le (by decide) H.1.1, (H.2.1 (66, 8, 70) (by decide)).1⟩
theorem sN_66 (H : sh h) : xe_N h 66 = 70 := (H.2.1 (66, 8, 70) (by decide)).2
theorem sA_66 (H : sh h) : xe_ia h 66 := ob_ia (sT_66 H)
theorem sT_67 (H : sh h) : xe_ob h 67 8 := ⟨Nat.lt_of_lt_of_le (by decide) H.1.1, (H.2.1 (67, 8, 70) (by decide)).1⟩
theorem sN_67 (H : sh h) : xe_N h 67 = 70 := (H.2.1 (67, 8, 70) (by decide)).2
theorem sA_67 (H : sh h) : xe_ia h 67 := ob_ia (sT_67 H)
theorem sT_68 (H : sh h) : xe_ob h 68 11 := ⟨Nat.lt_of_lt_of_le (by decide) H.1.1, (H.2.1 (68, 11, 2) (by decide)).1⟩
theorem sN_68 (H : sh h) : xe_N h 68 = 2 := (H.2.1 (68, 11, 2) (by decide)).2
theorem sB_68 (H : sh h) : xe_ba h 68 := Or.inr ⟨(sT_68 H).2, (sT_68 H).1⟩
theorem sT_69 (H : sh h) : xe_ob h 69 8 := ⟨Nat.lt_of_lt_of_le (by decide) H.1.1, (H.2.1 (69, 8, 4) (by decide)).1⟩
theorem sN_69 (H : sh h) : xe_N h 69 = 4 := (H.2.1 (69, 8, 4) (by decide)).2
theorem sA_69 (H : sh h) : xe_ia h 69 := ob_ia (sT_69 H)
theorem sT_70 (H : sh h) : xe_ob h 70 8 := ⟨Nat.lt_of_lt_of_le (by decide) H.1.1, (H.2.1 (70, 8, 4) (by decide)).1⟩
theorem sN_70 (H : sh h) : xe_N h 70 = 4 := (H.2.1 (70, 8, 4) (by decide)).2
theorem sA_70 (H : sh h) : xe_ia h 70 := ob_ia (sT_70 H)
theorem sT_71 (H : sh h) : xe_ob h 71 8 := ⟨Nat.lt_of_lt_of_le (by decide) H.1.1, (H.2.1 (71, 8, 160) (by decide)).1⟩
theorem sN_71 (H : sh h) : xe_N h 71 = 160 := (H.2.1 (71, 8, 160) (by decide)).2
theorem sA_71 (H : sh h) : xe_ia h 71 := ob_ia (sT_71 H)
theorem sR_1_7 (H : sh h) : xe_R h 1 7 = some 2 := H.2.2 (1, 7, 2) (by decide)
theorem sR_1_8 (H : sh h) : xe_R h 1 8 = some 3 := H.2.2 (1, 8, 3) (by decide)
theorem sR_1_9 (H : sh h) : xe_R h 1 9 = some 4 := H.2.2 (1, 9, 4) (by decide)
theorem sR_1_10 (H : sh h) : xe_R h 1 10 = some 5 := H.2.2 (1, 10, 5) (by decide)
theorem sR_1_11 (H : sh h) : xe_R h 1 11 = some 6 := H.2.2 (1, 11, 6) (by decide)
theorem sR_0_0 (H : sh h) : xe_R h 0 0 = some 1 := H.2.2 (0, 0, 1) (by decide)
theorem sR_7_7 (H : sh h) : xe_R h 7 7 = some 8 := H.2.2 (7, 7, 8) (by decide)
theorem sR_7_8 (H : sh h) : xe_R h 7 8 = some 9 := H.2.2 (7, 8, 9) (by decide)
theorem sR_7_9 (H : sh h) : xe_R h 7 9 = some 10 := H.2.2 (7, 9, 10) (by decide)
theorem sR_7_10 (H : sh h) : xe_R h 7 10 = some 11 := H.2.2 (7, 10, 11) (by decide)
theorem sR_7_11 (H : sh h) : xe_R h 7 11 = some 12 := H.2.2 (7, 11, 12) (by decide)
theorem sR_0_1 (H : sh h) : xe_R h 0 1 = some 7 := H.2.2 (0, 1, 7) (by decide)
theorem sR_0_2 (H : sh h) : xe_R h 0 2 = some 13 := H.2.2 (0, 2, 13) (by decide)
theorem sR_14_7 (H : sh h) : xe_R h 14 7 = some 15 := H.2.2 (14, 7, 15) (by decide)
theorem sR_14_8 (H : sh h) : xe_R h 14 8 = some 16 := H.2.2 (14, 8, 16) (by decide)
theorem sR_14_9 (H : sh h) : xe_R h 14 9 = some 17 := H.2.2 (14, 9, 17) (by decide)
theorem sR_14_10 (H : sh h) : xe_R h 14 10 = some 18 := H.2.2 (14, 10, 18) (by decide)
theorem sR_14_11 (H : sh h) : xe_R h 14 11 = some 19 := H.2.2 (14, 11, 19) (by decide)
theorem sR_13_0 (H : sh h) : xe_R h 13 0 = some 14 := H.2.2 (13, 0, 14) (by decide)
theorem sR_20_7 (H : sh h) : xe_R h 20 7 = some 21 := H.2.2 (20, 7, 21) (by decide)
theorem sR_20_8 (H : sh h) : xe_R h 20 8 = some 22 := H.2.2 (20, 8, 22) (by decide)
theorem sR_20_9 (H : sh h) : xe_R h 20 9 = some 23 := H.2.2 (20, 9, 23) (by decide)
theorem sR_20_10 (H : sh h) : xe_R h 20 10 = some 24 := H.2.2 (20, 10, 24) (by decide)
theorem sR_20_11 (H : sh h) : xe_R h 20 11 = some 25 := H.2.2 (20, 11, 25) (by decide)
theorem sR_13_1 (H : sh h) : xe_R h 13 1 = some 20 := H.2.2 (13, 1, 20) (by decide)
theorem sR_0_3 (H : sh h) : xe_R h 0 3 = some 26 := H.2.2 (0, 3, 26) (by decide)
theorem sR_0_4 (H : sh h) : xe_R h 0 4 = some 27 := H.2.2 (0, 4, 27) (by decide)
theorem sR_27_0 (H : sh h) : xe_R h 27 0 = some 28 := H.2.2 (27, 0, 28) (by decide)
theorem sR_0_5 (H : sh h) : xe_R h 0 5 = some 29 := H.2.2 (0, 5, 29) (by decide)
theorem sR_29_0 (H : sh h) : xe_R h 29 0 = some 30 := H.2.2 (29, 0, 30) (by decide)
theorem sR_29_3 (H : sh h) : xe_R h 29 3 = some 32 := H.2.2 (29, 3, 32) (by decide)
theorem sR_0_6 (H : sh h) : xe_R h 0 6 = some 33 := H.2.2 (0, 6, 33) (by decide)
theorem sR_33_1 (H : sh h) : xe_R h 33 1 = some 34 := H.2.2 (33, 1, 34) (by decide)
theorem sR_33_2 (H : sh h) : xe_R h 33 2 = some 35 := H.2.2 (33, 2, 35) (by decide)
theorem sR_0_7 (H : sh h) : xe_R h 0 7 = some 36 := H.2.2 (0, 7, 36) (by decide)
theorem sR_36_2 (H : sh h) : xe_R h 36 2 = some 37 := H.2.2 (36, 2, 37) (by decide)
theorem sR_36_3 (H : sh h) : xe_R h 36 3 = some 38 := H.2.2 (36, 3, 38) (by decide)
theorem sR_36_4 (H : sh h) : xe_R h 36 4 = some 39 := H.2.2 (36, 4, 39) (by decide)
theorem sR_36_5 (H : sh h) : xe_R h 36 5 = some 40 := H.2.2 (36, 5, 40) (by decide)
theorem sR_36_6 (H : sh h) : xe_R h 36 6 = some 41 := H.2.2 (36, 6, 41) (by decide)
theorem sR_36_7 (H : sh h) : xe_R h 36 7 = some 42 := H.2.2 (36, 7, 42) (by decide)
theorem sR_36_8 (H : sh h) : xe_R h 36 8 = some 43 := H.2.2 (36, 8, 43) (by decide)
theorem sR_0_8 (H : sh h) : xe_R h 0 8 = some 44 := H.2.2 (0, 8, 44) (by decide)
theorem sR_44_0 (H : sh h) : xe_R h 44 0 = some 45 := H.2.2 (44, 0, 45) (by decide)
theorem sR_44_1 (H : sh h) : xe_R h 44 1 = some 46 := H.2.2 (44, 1, 46) (by decide)
theorem sR_44_2 (H : sh h) : xe_R h 44 2 = some 47 := H.2.2 (44, 2, 47) (by decide)
theorem sR_48_0 (H : sh h) : xe_R h 48 0 = some 49 := H.2.2 (48, 0, 49) (by decide)
theorem sR_48_2 (H : sh h) : xe_R h 48 2 = some 50 := H.2.2 (48, 2, 50) (by decide)
theorem sR_48_9 (H : sh h) : xe_R h 48 9 = some 51 := H.2.2 (48, 9, 51) (by decide)
theorem sR_48_10 (H : sh h) : xe_R h 48 10 = some 52 := H.2.2 (48, 10, 52) (by decide)
theorem sR_48_11 (H : sh h) : xe_R h 48 11 = some 53 := H.2.2 (48, 11, 53) (by decide)
theorem sR_48_20 (H : sh h) : xe_R h 48 20 = some 54 := H.2.2 (48, 20, 54) (by decide)
theorem sR_48_21 (H : sh h) : xe_R h 48 21 = some 55 := H.2.2 (48, 21, 55) (by decide)
theorem sR_48_22 (H : sh h) : xe_R h 48 22 = some 56 := H.2.2 (48, 22, 56) (by decide)
theorem sR_48_23 (H : sh h) : xe_R h 48 23 = some 57 := H.2.2 (48, 23, 57) (by decide)
theorem sR_48_24 (H : sh h) : xe_R h 48 24 = some 58 := H.2.2 (48, 24, 58) (by decide)
theorem sR_48_26 (H : sh h) : xe_R h 48 26 = some 59 := H.2.2 (48, 26, 59) (by decide)
theorem sR_48_27 (H : sh h) : xe_R h 48 27 = some 60 := H.2.2 (48, 27, 60) (by decide)
theorem sR_48_28 (H : sh h) : xe_R h 48 28 = some 61 := H.2.2 (48, 28, 61) (by decide)
theorem sR_48_29 (H : sh h) : xe_R h 48 29 = some 62 := H.2.2 (48, 29, 62) (by decide)
theorem sR_48_30 (H : sh h) : xe_R h 48 30 = some 63 := H.2.2 (48, 30, 63) (by decide)
theorem sR_48_31 (H : sh h) : xe_R h 48 31 = some 64 := H.2.2 (48, 31, 64) (by decide)
theorem sR_48_33 (H : sh h) : xe_R h 48 33 = some 65 := H.2.2 (48, 33, 65) (by decide)
theorem sR_48_34 (H : sh h) : xe_R h 48 34 = some 66 := H.2.2 (48, 34, 66) (by decide)
theorem sR_48_35 (H : sh h) : xe_R h 48 35 = some 67 := H.2.2 (48, 35, 67) (by decide)
theorem sR_48_36 (H : sh h) : xe_R h 48 36 = some 68 := H.2.2 (48, 36, 68) (by decide)
theorem sR_48_37 (H : sh h) : xe_R h 48 37 = some 69 := H.2.2 (48, 37, 69) (by decide)
theorem sR_48_38 (H : sh h) : xe_R h 48 38 = some 70 := H.2.2 (48, 38, 70) (by decide)
theorem sR_48_39 (H : sh h) : xe_R h 48 39 = some 71 := H.2.2 (48, 39, 71) (by decide)
theorem sW_1 (H : sh h) : tn_sh h 1 := ⟨sT_1 H, ⟨sR_1_7 H, sR_1_8 H, sR_1_9 H, sR_1_10 H, sR_1_11 H⟩, ⟨sT_2 H, sT_3 H, sT_4 H, sT_5 H, sT_6 H⟩, ⟨sN_2 H, sN_3 H, sN_4 H, sN_5 H, sN_6 H⟩⟩
theorem sW_7 (H : sh h) : tn_sh h 7 := ⟨sT_7 H, ⟨sR_7_7 H, sR_7_8 H, sR_7_9 H, sR_7_10 H, sR_7_11 H⟩, ⟨sT_8 H, sT_9 H, sT_10 H, sT_11 H, sT_12 H⟩, ⟨sN_8 H, sN_9 H, sN_10 H, sN_11 H, sN_12 H⟩⟩
theorem sW_14 (H : sh h) : tn_sh h 14 := ⟨sT_14 H, ⟨sR_14_7 H, sR_14_8 H, sR_14_9 H, sR_14_10 H, sR_14_11 H⟩, ⟨sT_15 H, sT_16 H, sT_17 H, sT_18 H, sT_19 H⟩, ⟨sN_15 H, sN_16 H, sN_17 H, sN_18 H, sN_19 H⟩⟩
theorem sW_20 (H : sh h) : tn_sh h 20 := ⟨sT_20 H, ⟨sR_20_7 H, sR_20_8 H, sR_20_9 H, sR_20_10 H, sR_20_11 H⟩, ⟨sT_21 H, sT_22 H, sT_23 H, sT_24 H, sT_25 H⟩, ⟨sN_21 H, sN_22 H, sN_23 H, sN_24 H, sN_25 H⟩⟩
end SH
