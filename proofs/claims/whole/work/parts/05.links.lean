/-! The program's tables, held against the words of the Statement: a word by its place. -/
def xe_tbl : List Cond := lw_tbl.filter goodWord
def xe_is (i : Nat) (w : Cond) : Bool := decide (lw_tbl[i]? = some w) && goodWord w
theorem xe_is_in {i : Nat} {w : Cond} (h : xe_is i w = true) : w ∈ xe_tbl := by
  simp only [xe_is, Bool.and_eq_true, decide_eq_true_eq] at h
  exact List.mem_filter.mpr ⟨List.mem_of_getElem? h.1, h.2⟩
theorem xe_tbl_lw {w : Cond} (h : w ∈ xe_tbl) : w ∈ lw_tbl := (List.mem_filter.mp h).1
theorem xe_tbl_good {w : Cond} (h : w ∈ xe_tbl) : goodWord w = true := (List.mem_filter.mp h).2
set_option maxRecDepth 100000 in
theorem xe_cw_0 : Cond.code ⟨"CrossShuts$Plays", "<init>", "()V"⟩ prog_2_method_1_code 1 none ∈ xe_tbl := List.mem_filter.mpr ⟨List.mem_of_getElem? (i := 275) rfl, rfl⟩
set_option maxRecDepth 100000 in
theorem xe_cw_1 : Cond.code ⟨"CrossShuts$Plays", "guarding", "(LCrossShuts$Town;IIII)I"⟩ prog_2_method_2_code 7 (some .int) ∈ xe_tbl := List.mem_filter.mpr ⟨List.mem_of_getElem? (i := 745) rfl, rfl⟩
set_option maxRecDepth 100000 in
theorem xe_cw_2 : Cond.code ⟨"CrossShuts$Plays", "holdFrom", "(IIII)V"⟩ prog_2_method_3_code 7 none ∈ xe_tbl := List.mem_filter.mpr ⟨List.mem_of_getElem? (i := 750) rfl, rfl⟩
set_option maxRecDepth 100000 in
theorem xe_cw_3 : Cond.code ⟨"CrossShuts$Plays", "winning", "(LCrossShuts$Town;IIII)I"⟩ prog_2_method_4_code 8 (some .int) ∈ xe_tbl := List.mem_filter.mpr ⟨List.mem_of_getElem? (i := 767) rfl, rfl⟩
set_option maxRecDepth 100000 in
theorem xe_cw_4 : Cond.code ⟨"CrossShuts$Plays", "winningMove", "(IIII)I"⟩ prog_2_method_5_code 7 (some .int) ∈ xe_tbl := List.mem_filter.mpr ⟨List.mem_of_getElem? (i := 771) rfl, rfl⟩
set_option maxRecDepth 100000 in
theorem xe_cw_5 : Cond.code ⟨"CrossShuts$Plays", "canHinder", "(IIII)Z"⟩ prog_2_method_6_code 7 (some .boolean) ∈ xe_tbl := List.mem_filter.mpr ⟨List.mem_of_getElem? (i := 775) rfl, rfl⟩
set_option maxRecDepth 100000 in
theorem xe_cw_6 : Cond.code ⟨"CrossShuts$Plays", "luck", "(LCrossShuts$Town;III)J"⟩ prog_2_method_7_code 11 (some .long) ∈ xe_tbl := List.mem_filter.mpr ⟨List.mem_of_getElem? (i := 794) rfl, rfl⟩
set_option maxRecDepth 100000 in
theorem xe_cw_7 : Cond.code ⟨"CrossShuts$Plays", "luckyShares", "(III)J"⟩ prog_2_method_8_code 10 (some .long) ∈ xe_tbl := List.mem_filter.mpr ⟨List.mem_of_getElem? (i := 802) rfl, rfl⟩
set_option maxRecDepth 100000 in
theorem xe_cw_8 : Cond.code ⟨"CrossShuts$Plays", "bridgesAt", "(I)I"⟩ prog_2_method_9_code 4 (some .int) ∈ xe_tbl := List.mem_filter.mpr ⟨List.mem_of_getElem? (i := 806) rfl, rfl⟩
set_option maxRecDepth 100000 in
theorem xe_cw_9 : Cond.code ⟨"CrossShuts$Plays", "sharesBehind", "(I)J"⟩ prog_2_method_10_code 4 (some .long) ∈ xe_tbl := List.mem_filter.mpr ⟨List.mem_of_getElem? (i := 797) rfl, rfl⟩
set_option maxRecDepth 100000 in
theorem xe_cw_10 : Cond.code ⟨"CrossShuts$Plays", "commonDivisor", "(JJ)J"⟩ prog_2_method_11_code 11 (some .long) ∈ xe_tbl := List.mem_filter.mpr ⟨List.mem_of_getElem? (i := 810) rfl, rfl⟩
set_option maxRecDepth 100000 in
theorem xe_cw_11 : Cond.code ⟨"CrossShuts$Sheets", "<init>", "()V"⟩ prog_3_method_1_code 1 none ∈ xe_tbl := List.mem_filter.mpr ⟨List.mem_of_getElem? (i := 352) rfl, rfl⟩
set_option maxRecDepth 100000 in
theorem xe_cw_12 : Cond.code ⟨"CrossShuts$Sheets", "isSheet", "(I)Z"⟩ prog_3_method_2_code 1 (some .boolean) ∈ xe_tbl := List.mem_filter.mpr ⟨List.mem_of_getElem? (i := 896) rfl, rfl⟩
set_option maxRecDepth 100000 in
theorem xe_cw_13 : Cond.code ⟨"CrossShuts$Sheets", "isLane", "(I)Z"⟩ prog_3_method_3_code 1 (some .boolean) ∈ xe_tbl := List.mem_filter.mpr ⟨List.mem_of_getElem? (i := 899) rfl, rfl⟩
set_option maxRecDepth 100000 in
theorem xe_cw_14 : Cond.code ⟨"CrossShuts$Sheets", "make", "(III)V"⟩ prog_3_method_4_code 4 none ∈ xe_tbl := List.mem_filter.mpr ⟨List.mem_of_getElem? (i := 903) rfl, rfl⟩
set_option maxRecDepth 100000 in
theorem xe_cw_15 : Cond.code ⟨"CrossShuts$Sheets", "faultAt", "(II)I"⟩ prog_3_method_5_code 3 (some .int) ∈ xe_tbl := List.mem_filter.mpr ⟨List.mem_of_getElem? (i := 914) rfl, rfl⟩
set_option maxRecDepth 100000 in
theorem xe_cw_16 : Cond.code ⟨"CrossShuts$Sheets", "faultAs", "(III)I"⟩ prog_3_method_6_code 4 (some .int) ∈ xe_tbl := List.mem_filter.mpr ⟨List.mem_of_getElem? (i := 918) rfl, rfl⟩
set_option maxRecDepth 100000 in
theorem xe_cw_17 : Cond.code ⟨"CrossShuts$Sheets", "put", "(III)V"⟩ prog_3_method_7_code 5 none ∈ xe_tbl := List.mem_filter.mpr ⟨List.mem_of_getElem? (i := 922) rfl, rfl⟩
set_option maxRecDepth 100000 in
theorem xe_cw_18 : Cond.code ⟨"CrossShuts$Sheets", "cell", "(II)I"⟩ prog_3_method_8_code 3 (some .int) ∈ xe_tbl := List.mem_filter.mpr ⟨List.mem_of_getElem? (i := 931) rfl, rfl⟩
set_option maxRecDepth 100000 in
theorem xe_cw_19 : Cond.code ⟨"CrossShuts$Sheets", "cellsOf", "(I)I"⟩ prog_3_method_9_code 2 (some .int) ∈ xe_tbl := List.mem_filter.mpr ⟨List.mem_of_getElem? (i := 951) rfl, rfl⟩
set_option maxRecDepth 100000 in
theorem xe_cw_20 : Cond.code ⟨"CrossShuts$Teller", "<init>", "()V"⟩ prog_4_method_1_code 1 none ∈ xe_tbl := List.mem_filter.mpr ⟨List.mem_of_getElem? (i := 190) rfl, rfl⟩
set_option maxRecDepth 100000 in
theorem xe_cw_21 : Cond.code ⟨"CrossShuts$Teller", "takeEight", "(J)I"⟩ prog_4_method_2_code 4 (some .int) ∈ xe_tbl := List.mem_filter.mpr ⟨List.mem_of_getElem? (i := 403) rfl, rfl⟩
set_option maxRecDepth 100000 in
theorem xe_cw_22 : Cond.code ⟨"CrossShuts$Teller", "cutTo", "(I)I"⟩ prog_4_method_3_code 3 (some .int) ∈ xe_tbl := List.mem_filter.mpr ⟨List.mem_of_getElem? (i := 411) rfl, rfl⟩
set_option maxRecDepth 100000 in
theorem xe_cw_23 : Cond.code ⟨"CrossShuts$Teller", "tell", "(LCrossShuts$Town;)I"⟩ prog_4_method_4_code 4 (some .int) ∈ xe_tbl := List.mem_filter.mpr ⟨List.mem_of_getElem? (i := 419) rfl, rfl⟩
set_option maxRecDepth 100000 in
theorem xe_cw_24 : Cond.code ⟨"CrossShuts$Teller", "takeLine", "()Z"⟩ prog_4_method_5_code 4 (some .boolean) ∈ xe_tbl := List.mem_filter.mpr ⟨List.mem_of_getElem? (i := 441) rfl, rfl⟩
set_option maxRecDepth 100000 in
theorem xe_cw_25 : Cond.code ⟨"CrossShuts$Teller", "takeNumber", "(II)Z"⟩ prog_4_method_6_code 3 (some .boolean) ∈ xe_tbl := List.mem_filter.mpr ⟨List.mem_of_getElem? (i := 523) rfl, rfl⟩
set_option maxRecDepth 100000 in
theorem xe_cw_26 : Cond.code ⟨"CrossShuts$Teller", "isKind", "(I)Z"⟩ prog_4_method_7_code 2 (some .boolean) ∈ xe_tbl := List.mem_filter.mpr ⟨List.mem_of_getElem? (i := 445) rfl, rfl⟩
set_option maxRecDepth 100000 in
theorem xe_cw_27 : Cond.code ⟨"CrossShuts$Teller", "isTaken", "(II)Z"⟩ prog_4_method_8_code 3 (some .boolean) ∈ xe_tbl := List.mem_filter.mpr ⟨List.mem_of_getElem? (i := 527) rfl, rfl⟩
set_option maxRecDepth 100000 in
theorem xe_cw_28 : Cond.code ⟨"CrossShuts$Teller", "tellLine", "(III)V"⟩ prog_4_method_9_code 4 none ∈ xe_tbl := List.mem_filter.mpr ⟨List.mem_of_getElem? (i := 538) rfl, rfl⟩
set_option maxRecDepth 100000 in
theorem xe_cw_29 : Cond.code ⟨"CrossShuts$Teller", "blame", "(II)Z"⟩ prog_4_method_10_code 3 (some .boolean) ∈ xe_tbl := List.mem_filter.mpr ⟨List.mem_of_getElem? (i := 449) rfl, rfl⟩
set_option maxRecDepth 100000 in
theorem xe_cw_30 : Cond.code ⟨"CrossShuts$Teller", "readToken", "()V"⟩ prog_4_method_11_code 1 none ∈ xe_tbl := List.mem_filter.mpr ⟨List.mem_of_getElem? (i := 424) rfl, rfl⟩
set_option maxRecDepth 100000 in
theorem xe_cw_31 : Cond.code ⟨"CrossShuts$Teller", "readNumber", "()V"⟩ prog_4_method_12_code 1 none ∈ xe_tbl := List.mem_filter.mpr ⟨List.mem_of_getElem? (i := 434) rfl, rfl⟩
set_option maxRecDepth 100000 in
theorem xe_cw_32 : Cond.code ⟨"CrossShuts$Teller", "isLetter", "(B)Z"⟩ prog_4_method_13_code 1 (some .boolean) ∈ xe_tbl := List.mem_filter.mpr ⟨List.mem_of_getElem? (i := 427) rfl, rfl⟩
set_option maxRecDepth 100000 in
theorem xe_cw_33 : Cond.code ⟨"CrossShuts$Teller", "isFigure", "(B)Z"⟩ prog_4_method_14_code 1 (some .boolean) ∈ xe_tbl := List.mem_filter.mpr ⟨List.mem_of_getElem? (i := 430) rfl, rfl⟩
set_option maxRecDepth 100000 in
theorem xe_cw_34 : Cond.code ⟨"CrossShuts$Teller", "wordHere", "()I"⟩ prog_4_method_15_code 2 (some .int) ∈ xe_tbl := List.mem_filter.mpr ⟨List.mem_of_getElem? (i := 453) rfl, rfl⟩
set_option maxRecDepth 100000 in
theorem xe_cw_35 : Cond.code ⟨"CrossShuts$Teller", "spells", "(Ljava/lang/String;)Z"⟩ prog_4_method_16_code 3 (some .boolean) ∈ xe_tbl := List.mem_filter.mpr ⟨List.mem_of_getElem? (i := 467) rfl, rfl⟩
set_option maxRecDepth 100000 in
theorem xe_cw_36 : Cond.code ⟨"CrossShuts$Teller", "nameOf", "(I)Ljava/lang/String;"⟩ prog_4_method_17_code 1 (some (.object "java/lang/String")) ∈ xe_tbl := List.mem_filter.mpr ⟨List.mem_of_getElem? (i := 456) rfl, rfl⟩
set_option maxRecDepth 100000 in
theorem xe_cw_37 : Cond.code ⟨"CrossShuts$Town", "<init>", "()V"⟩ prog_5_method_1_code 1 none ∈ xe_tbl := List.mem_filter.mpr ⟨List.mem_of_getElem? (i := 104) rfl, rfl⟩
set_option maxRecDepth 100000 in
theorem xe_cw_38 : Cond.code ⟨"CrossShuts$Town", "clear", "()V"⟩ prog_5_method_2_code 1 none ∈ xe_tbl := List.mem_filter.mpr ⟨List.mem_of_getElem? (i := 109) rfl, rfl⟩
set_option maxRecDepth 100000 in
theorem xe_cw_39 : Cond.code ⟨"CrossShuts$Town", "copyFrom", "(LCrossShuts$Town;)V"⟩ prog_5_method_3_code 2 none ∈ xe_tbl := List.mem_filter.mpr ⟨List.mem_of_getElem? (i := 548) rfl, rfl⟩
set_option maxRecDepth 100000 in
theorem xe_cw_40 : Cond.code ⟨"CrossShuts$Town", "isPlace", "(I)Z"⟩ prog_5_method_4_code 2 (some .boolean) ∈ xe_tbl := List.mem_filter.mpr ⟨List.mem_of_getElem? (i := 619) rfl, rfl⟩
set_option maxRecDepth 100000 in
theorem xe_cw_41 : Cond.code ⟨"CrossShuts$Town", "isBridge", "(I)Z"⟩ prog_5_method_5_code 2 (some .boolean) ∈ xe_tbl := List.mem_filter.mpr ⟨List.mem_of_getElem? (i := 567) rfl, rfl⟩
set_option maxRecDepth 100000 in
theorem xe_cw_42 : Cond.code ⟨"CrossShuts$Town", "isOne", "(I)Z"⟩ prog_5_method_6_code 2 (some .boolean) ∈ xe_tbl := List.mem_filter.mpr ⟨List.mem_of_getElem? (i := 581) rfl, rfl⟩
set_option maxRecDepth 100000 in
theorem xe_cw_43 : Cond.code ⟨"CrossShuts$Town", "restOf", "(II)I"⟩ prog_5_method_7_code 2 (some .int) ∈ xe_tbl := List.mem_filter.mpr ⟨List.mem_of_getElem? (i := 573) rfl, rfl⟩
set_option maxRecDepth 100000 in
theorem xe_cw_44 : Cond.code ⟨"CrossShuts$Town", "withRest", "(III)I"⟩ prog_5_method_8_code 3 (some .int) ∈ xe_tbl := List.mem_filter.mpr ⟨List.mem_of_getElem? (i := 544) rfl, rfl⟩
set_option maxRecDepth 100000 in
theorem xe_cw_45 : Cond.code ⟨"CrossShuts$Town", "isOpen", "(II)Z"⟩ prog_5_method_9_code 2 (some .boolean) ∈ xe_tbl := List.mem_filter.mpr ⟨List.mem_of_getElem? (i := 530) rfl, rfl⟩
set_option maxRecDepth 100000 in
theorem xe_cw_46 : Cond.code ⟨"CrossShuts$Town", "behindMinute", "(I)I"⟩ prog_5_method_10_code 1 (some .int) ∈ xe_tbl := List.mem_filter.mpr ⟨List.mem_of_getElem? (i := 646) rfl, rfl⟩
set_option maxRecDepth 100000 in
theorem xe_cw_47 : Cond.code ⟨"CrossShuts$Town", "shutFor", "(III)I"⟩ prog_5_method_11_code 3 (some .int) ∈ xe_tbl := List.mem_filter.mpr ⟨List.mem_of_getElem? (i := 638) rfl, rfl⟩
set_option maxRecDepth 100000 in
theorem xe_cw_48 : Cond.code ⟨"CrossShuts$Town", "touches", "(II)Z"⟩ prog_5_method_12_code 3 (some .boolean) ∈ xe_tbl := List.mem_filter.mpr ⟨List.mem_of_getElem? (i := 593) rfl, rfl⟩
set_option maxRecDepth 100000 in
theorem xe_cw_49 : Cond.code ⟨"CrossShuts$Town", "canMove", "(III)Z"⟩ prog_5_method_13_code 4 (some .boolean) ∈ xe_tbl := List.mem_filter.mpr ⟨List.mem_of_getElem? (i := 589) rfl, rfl⟩
set_option maxRecDepth 100000 in
theorem xe_cw_50 : Cond.code ⟨"CrossShuts$Town", "placeAfter", "(II)I"⟩ prog_5_method_14_code 3 (some .int) ∈ xe_tbl := List.mem_filter.mpr ⟨List.mem_of_getElem? (i := 643) rfl, rfl⟩
set_option maxRecDepth 100000 in
theorem xe_cw_51 : Cond.code ⟨"CrossShuts$Town", "restsAfter", "(II)I"⟩ prog_5_method_15_code 5 (some .int) ∈ xe_tbl := List.mem_filter.mpr ⟨List.mem_of_getElem? (i := 635) rfl, rfl⟩
set_option maxRecDepth 100000 in
theorem xe_cw_52 : Cond.code ⟨"CrossShuts$Town", "crossable", "(I)I"⟩ prog_5_method_16_code 4 (some .int) ∈ xe_tbl := List.mem_filter.mpr ⟨List.mem_of_getElem? (i := 585) rfl, rfl⟩
set_option maxRecDepth 100000 in
theorem xe_cw_53 : Cond.code ⟨"CrossShuts$Town", "passMinute", "(I)I"⟩ prog_5_method_17_code 5 (some .int) ∈ xe_tbl := List.mem_filter.mpr ⟨List.mem_of_getElem? (i := 627) rfl, rfl⟩
set_option maxRecDepth 100000 in
theorem xe_cw_54 : Cond.code ⟨"CrossShuts$Town", "areMoves", "(I)Z"⟩ prog_5_method_18_code 3 (some .boolean) ∈ xe_tbl := List.mem_filter.mpr ⟨List.mem_of_getElem? (i := 631) rfl, rfl⟩
set_option maxRecDepth 100000 in
theorem xe_cw_55 : Cond.code ⟨"CrossShuts$Town", "hangsRound", "(I)Z"⟩ prog_5_method_19_code 4 (some .boolean) ∈ xe_tbl := List.mem_filter.mpr ⟨List.mem_of_getElem? (i := 736) rfl, rfl⟩
set_option maxRecDepth 100000 in
theorem xe_cw_56 : Cond.code ⟨"CrossShuts$Town", "openBridges", "()I"⟩ prog_5_method_20_code 3 (some .int) ∈ xe_tbl := List.mem_filter.mpr ⟨List.mem_of_getElem? (i := 943) rfl, rfl⟩
set_option maxRecDepth 100000 in
theorem xe_cw_57 : Cond.code ⟨"CrossShuts$Town", "peopleAtGoals", "()I"⟩ prog_5_method_21_code 3 (some .int) ∈ xe_tbl := List.mem_filter.mpr ⟨List.mem_of_getElem? (i := 947) rfl, rfl⟩
set_option maxRecDepth 100000 in
theorem xe_cw_58 : Cond.code ⟨"CrossShuts$Watch", "<init>", "()V"⟩ prog_6_method_1_code 1 none ∈ xe_tbl := List.mem_filter.mpr ⟨List.mem_of_getElem? (i := 303) rfl, rfl⟩
set_option maxRecDepth 100000 in
theorem xe_cw_59 : Cond.code ⟨"CrossShuts$Watch", "add", "(IIZ)I"⟩ prog_6_method_2_code 4 (some .int) ∈ xe_tbl := List.mem_filter.mpr ⟨List.mem_of_getElem? (i := 818) rfl, rfl⟩
set_option maxRecDepth 100000 in
theorem xe_cw_60 : Cond.code ⟨"CrossShuts$Watch", "sift", "(LCrossShuts$Town;Z)V"⟩ prog_6_method_3_code 3 none ∈ xe_tbl := List.mem_filter.mpr ⟨List.mem_of_getElem? (i := 830) rfl, rfl⟩
set_option maxRecDepth 100000 in
theorem xe_cw_61 : Cond.code ⟨"CrossShuts$Watch", "follow", "(II)V"⟩ prog_6_method_4_code 5 none ∈ xe_tbl := List.mem_filter.mpr ⟨List.mem_of_getElem? (i := 836) rfl, rfl⟩
set_option maxRecDepth 100000 in
theorem xe_cw_62 : Cond.code ⟨"CrossShuts$Watch", "behind", "(II)V"⟩ prog_6_method_5_code 4 none ∈ xe_tbl := List.mem_filter.mpr ⟨List.mem_of_getElem? (i := 864) rfl, rfl⟩
set_option maxRecDepth 100000 in
theorem xe_cw_63 : Cond.code ⟨"CrossShuts$Watch", "mayHang", "(II)Z"⟩ prog_6_method_6_code 3 (some .boolean) ∈ xe_tbl := List.mem_filter.mpr ⟨List.mem_of_getElem? (i := 860) rfl, rfl⟩
set_option maxRecDepth 100000 in
theorem xe_cw_64 : Cond.code ⟨"CrossShuts$Watch", "fits", "(I)V"⟩ prog_6_method_7_code 5 none ∈ xe_tbl := List.mem_filter.mpr ⟨List.mem_of_getElem? (i := 840) rfl, rfl⟩
set_option maxRecDepth 100000 in
theorem xe_cw_65 : Cond.code ⟨"CrossShuts$Watch", "leastOn", "(I)I"⟩ prog_6_method_8_code 2 (some .int) ∈ xe_tbl := List.mem_filter.mpr ⟨List.mem_of_getElem? (i := 844) rfl, rfl⟩
set_option maxRecDepth 100000 in
theorem xe_cw_66 : Cond.code ⟨"CrossShuts$Watch", "firstHanging", "(I)I"⟩ prog_6_method_9_code 4 (some .int) ∈ xe_tbl := List.mem_filter.mpr ⟨List.mem_of_getElem? (i := 868) rfl, rfl⟩
set_option maxRecDepth 100000 in
theorem xe_cw_67 : Cond.code ⟨"CrossShuts$Watch", "tellNext", "(II)V"⟩ prog_6_method_10_code 5 none ∈ xe_tbl := List.mem_filter.mpr ⟨List.mem_of_getElem? (i := 849) rfl, rfl⟩
set_option maxRecDepth 100000 in
theorem xe_cw_68 : Cond.code ⟨"CrossShuts$Watch", "tally", "(III)V"⟩ prog_6_method_11_code 7 none ∈ xe_tbl := List.mem_filter.mpr ⟨List.mem_of_getElem? (i := 853) rfl, rfl⟩
set_option maxRecDepth 100000 in
theorem xe_cw_69 : Cond.code ⟨"CrossShuts$Watch", "bestLook", "(I)I"⟩ prog_6_method_12_code 8 (some .int) ∈ xe_tbl := List.mem_filter.mpr ⟨List.mem_of_getElem? (i := 880) rfl, rfl⟩
set_option maxRecDepth 100000 in
theorem xe_cw_70 : Cond.code ⟨"CrossShuts$Ways", "<init>", "()V"⟩ prog_7_method_1_code 1 none ∈ xe_tbl := List.mem_filter.mpr ⟨List.mem_of_getElem? (i := 237) rfl, rfl⟩
set_option maxRecDepth 100000 in
theorem xe_cw_71 : Cond.code ⟨"CrossShuts$Ways", "seek", "(LCrossShuts$Town;III)V"⟩ prog_7_method_2_code 5 none ∈ xe_tbl := List.mem_filter.mpr ⟨List.mem_of_getElem? (i := 659) rfl, rfl⟩
set_option maxRecDepth 100000 in
theorem xe_cw_72 : Cond.code ⟨"CrossShuts$Ways", "answer", "(I)I"⟩ prog_7_method_3_code 3 (some .int) ∈ xe_tbl := List.mem_filter.mpr ⟨List.mem_of_getElem? (i := 709) rfl, rfl⟩
set_option maxRecDepth 100000 in
theorem xe_cw_73 : Cond.code ⟨"CrossShuts$Ways", "placesInReach", "(LCrossShuts$Town;I)I"⟩ prog_7_method_4_code 5 (some .int) ∈ xe_tbl := List.mem_filter.mpr ⟨List.mem_of_getElem? (i := 721) rfl, rfl⟩
set_option maxRecDepth 100000 in
theorem xe_cw_74 : Cond.code ⟨"CrossShuts$Ways", "soonestChain", "(LCrossShuts$Town;II)I"⟩ prog_7_method_5_code 9 (some .int) ∈ xe_tbl := List.mem_filter.mpr ⟨List.mem_of_getElem? (i := 783) rfl, rfl⟩
set_option maxRecDepth 100000 in
theorem xe_cw_75 : Cond.code ⟨"CrossShuts$Ways", "search", "(III)V"⟩ prog_7_method_6_code 6 none ∈ xe_tbl := List.mem_filter.mpr ⟨List.mem_of_getElem? (i := 663) rfl, rfl⟩
set_option maxRecDepth 100000 in
theorem xe_cw_76 : Cond.code ⟨"CrossShuts$Ways", "spread", "(I)Z"⟩ prog_7_method_7_code 11 (some .boolean) ∈ xe_tbl := List.mem_filter.mpr ⟨List.mem_of_getElem? (i := 697) rfl, rfl⟩
set_option maxRecDepth 100000 in
theorem xe_cw_77 : Cond.code ⟨"CrossShuts$Ways", "atGoals", "(II)Z"⟩ prog_7_method_8_code 3 (some .boolean) ∈ xe_tbl := List.mem_filter.mpr ⟨List.mem_of_getElem? (i := 692) rfl, rfl⟩
set_option maxRecDepth 100000 in
theorem xe_cw_78 : Cond.code ⟨"CrossShuts$Ways", "isNew", "(IIIII)Z"⟩ prog_7_method_9_code 10 (some .boolean) ∈ xe_tbl := List.mem_filter.mpr ⟨List.mem_of_getElem? (i := 673) rfl, rfl⟩
set_option maxRecDepth 100000 in
theorem xe_cw_79 : Cond.code ⟨"CrossShuts$Ways", "squeezed", "(I)I"⟩ prog_7_method_10_code 1 (some .int) ∈ xe_tbl := List.mem_filter.mpr ⟨List.mem_of_getElem? (i := 676) rfl, rfl⟩
set_option maxRecDepth 100000 in
theorem xe_cw_80 : Cond.code ⟨"CrossShuts$Ways", "placeIn", "(JI)I"⟩ prog_7_method_11_code 3 (some .int) ∈ xe_tbl := List.mem_filter.mpr ⟨List.mem_of_getElem? (i := 701) rfl, rfl⟩
set_option maxRecDepth 100000 in
theorem xe_cw_81 : Cond.code ⟨"CrossShuts$Ways", "movesOf", "(I)I"⟩ prog_7_method_12_code 4 (some .int) ∈ xe_tbl := List.mem_filter.mpr ⟨List.mem_of_getElem? (i := 713) rfl, rfl⟩
set_option maxRecDepth 100000 in
theorem xe_cw_82 : Cond.code ⟨"CrossShuts", "<init>", "()V"⟩ prog_1_method_1_code 2 none ∈ xe_tbl := List.mem_filter.mpr ⟨List.mem_of_getElem? (i := 96) rfl, rfl⟩
set_option maxRecDepth 100000 in
theorem xe_cw_83 : Cond.code ⟨"CrossShuts", "feed", "(J)I"⟩ prog_1_method_2_code 3 (some .int) ∈ xe_tbl := List.mem_filter.mpr ⟨List.mem_of_getElem? (i := 399) rfl, rfl⟩
set_option maxRecDepth 100000 in
theorem xe_cw_84 : Cond.code ⟨"CrossShuts", "end", "(I)I"⟩ prog_1_method_3_code 2 (some .int) ∈ xe_tbl := List.mem_filter.mpr ⟨List.mem_of_getElem? (i := 407) rfl, rfl⟩
set_option maxRecDepth 100000 in
theorem xe_cw_85 : Cond.code ⟨"CrossShuts", "text", "()I"⟩ prog_1_method_4_code 2 (some .int) ∈ xe_tbl := List.mem_filter.mpr ⟨List.mem_of_getElem? (i := 415) rfl, rfl⟩
set_option maxRecDepth 100000 in
theorem xe_cw_86 : Cond.code ⟨"CrossShuts", "fault", "()I"⟩ prog_1_method_5_code 1 (some .int) ∈ xe_tbl := List.mem_filter.mpr ⟨List.mem_of_getElem? (i := 555) rfl, rfl⟩
set_option maxRecDepth 100000 in
theorem xe_cw_87 : Cond.code ⟨"CrossShuts", "rule", "(I)I"⟩ prog_1_method_6_code 2 (some .int) ∈ xe_tbl := List.mem_filter.mpr ⟨List.mem_of_getElem? (i := 559) rfl, rfl⟩
set_option maxRecDepth 100000 in
theorem xe_cw_88 : Cond.code ⟨"CrossShuts", "bridge", "(II)I"⟩ prog_1_method_7_code 3 (some .int) ∈ xe_tbl := List.mem_filter.mpr ⟨List.mem_of_getElem? (i := 563) rfl, rfl⟩
set_option maxRecDepth 100000 in
theorem xe_cw_89 : Cond.code ⟨"CrossShuts", "one", "(II)I"⟩ prog_1_method_8_code 3 (some .int) ∈ xe_tbl := List.mem_filter.mpr ⟨List.mem_of_getElem? (i := 577) rfl, rfl⟩
set_option maxRecDepth 100000 in
theorem xe_cw_90 : Cond.code ⟨"CrossShuts", "law", "(I)I"⟩ prog_1_method_9_code 3 (some .int) ∈ xe_tbl := List.mem_filter.mpr ⟨List.mem_of_getElem? (i := 598) rfl, rfl⟩
set_option maxRecDepth 100000 in
theorem xe_cw_91 : Cond.code ⟨"CrossShuts", "hold", "(I)I"⟩ prog_1_method_10_code 3 (some .int) ∈ xe_tbl := List.mem_filter.mpr ⟨List.mem_of_getElem? (i := 602) rfl, rfl⟩
set_option maxRecDepth 100000 in
theorem xe_cw_92 : Cond.code ⟨"CrossShuts", "chain", "(II)I"⟩ prog_1_method_11_code 4 (some .int) ∈ xe_tbl := List.mem_filter.mpr ⟨List.mem_of_getElem? (i := 606) rfl, rfl⟩
set_option maxRecDepth 100000 in
theorem xe_cw_93 : Cond.code ⟨"CrossShuts", "shut", "(II)I"⟩ prog_1_method_12_code 4 (some .int) ∈ xe_tbl := List.mem_filter.mpr ⟨List.mem_of_getElem? (i := 610) rfl, rfl⟩
set_option maxRecDepth 100000 in
theorem xe_cw_94 : Cond.code ⟨"CrossShuts", "send", "(III)I"⟩ prog_1_method_13_code 5 (some .int) ∈ xe_tbl := List.mem_filter.mpr ⟨List.mem_of_getElem? (i := 615) rfl, rfl⟩
set_option maxRecDepth 100000 in
theorem xe_cw_95 : Cond.code ⟨"CrossShuts", "minute", "(I)I"⟩ prog_1_method_14_code 2 (some .int) ∈ xe_tbl := List.mem_filter.mpr ⟨List.mem_of_getElem? (i := 623) rfl, rfl⟩
set_option maxRecDepth 100000 in
theorem xe_cw_96 : Cond.code ⟨"CrossShuts", "way", "(II)I"⟩ prog_1_method_15_code 3 (some .int) ∈ xe_tbl := List.mem_filter.mpr ⟨List.mem_of_getElem? (i := 651) rfl, rfl⟩
set_option maxRecDepth 100000 in
theorem xe_cw_97 : Cond.code ⟨"CrossShuts", "can", "(I)I"⟩ prog_1_method_16_code 2 (some .int) ∈ xe_tbl := List.mem_filter.mpr ⟨List.mem_of_getElem? (i := 717) rfl, rfl⟩
set_option maxRecDepth 100000 in
theorem xe_cw_98 : Cond.code ⟨"CrossShuts", "both", "(III)I"⟩ prog_1_method_17_code 4 (some .int) ∈ xe_tbl := List.mem_filter.mpr ⟨List.mem_of_getElem? (i := 726) rfl, rfl⟩
set_option maxRecDepth 100000 in
theorem xe_cw_99 : Cond.code ⟨"CrossShuts", "rings", "()I"⟩ prog_1_method_18_code 3 (some .int) ∈ xe_tbl := List.mem_filter.mpr ⟨List.mem_of_getElem? (i := 732) rfl, rfl⟩
set_option maxRecDepth 100000 in
theorem xe_cw_100 : Cond.code ⟨"CrossShuts", "guard", "(IIII)I"⟩ prog_1_method_19_code 5 (some .int) ∈ xe_tbl := List.mem_filter.mpr ⟨List.mem_of_getElem? (i := 741) rfl, rfl⟩
set_option maxRecDepth 100000 in
theorem xe_cw_101 : Cond.code ⟨"CrossShuts", "game", "(IIII)I"⟩ prog_1_method_20_code 5 (some .int) ∈ xe_tbl := List.mem_filter.mpr ⟨List.mem_of_getElem? (i := 760) rfl, rfl⟩
set_option maxRecDepth 100000 in
theorem xe_cw_102 : Cond.code ⟨"CrossShuts", "relay", "(II)I"⟩ prog_1_method_21_code 3 (some .int) ∈ xe_tbl := List.mem_filter.mpr ⟨List.mem_of_getElem? (i := 779) rfl, rfl⟩
set_option maxRecDepth 100000 in
theorem xe_cw_103 : Cond.code ⟨"CrossShuts", "chance", "(III)J"⟩ prog_1_method_22_code 4 (some .long) ∈ xe_tbl := List.mem_filter.mpr ⟨List.mem_of_getElem? (i := 789) rfl, rfl⟩
set_option maxRecDepth 100000 in
theorem xe_cw_104 : Cond.code ⟨"CrossShuts", "saw", "(IIZ)I"⟩ prog_1_method_23_code 4 (some .int) ∈ xe_tbl := List.mem_filter.mpr ⟨List.mem_of_getElem? (i := 814) rfl, rfl⟩
set_option maxRecDepth 100000 in
theorem xe_cw_105 : Cond.code ⟨"CrossShuts", "forget", "(I)I"⟩ prog_1_method_24_code 3 (some .int) ∈ xe_tbl := List.mem_filter.mpr ⟨List.mem_of_getElem? (i := 822) rfl, rfl⟩
set_option maxRecDepth 100000 in
theorem xe_cw_106 : Cond.code ⟨"CrossShuts", "rigs", "(I)I"⟩ prog_1_method_25_code 2 (some .int) ∈ xe_tbl := List.mem_filter.mpr ⟨List.mem_of_getElem? (i := 826) rfl, rfl⟩
set_option maxRecDepth 100000 in
theorem xe_cw_107 : Cond.code ⟨"CrossShuts", "hangs", "(I)I"⟩ prog_1_method_26_code 2 (some .int) ∈ xe_tbl := List.mem_filter.mpr ⟨List.mem_of_getElem? (i := 872) rfl, rfl⟩
set_option maxRecDepth 100000 in
theorem xe_cw_108 : Cond.code ⟨"CrossShuts", "look", "(I)I"⟩ prog_1_method_27_code 2 (some .int) ∈ xe_tbl := List.mem_filter.mpr ⟨List.mem_of_getElem? (i := 876) rfl, rfl⟩
set_option maxRecDepth 100000 in
theorem xe_cw_109 : Cond.code ⟨"CrossShuts", "keep", "(I)I"⟩ prog_1_method_28_code 3 (some .int) ∈ xe_tbl := List.mem_filter.mpr ⟨List.mem_of_getElem? (i := 885) rfl, rfl⟩
set_option maxRecDepth 100000 in
theorem xe_cw_110 : Cond.code ⟨"CrossShuts", "back", "(I)I"⟩ prog_1_method_29_code 2 (some .int) ∈ xe_tbl := List.mem_filter.mpr ⟨List.mem_of_getElem? (i := 889) rfl, rfl⟩
set_option maxRecDepth 100000 in
theorem xe_cw_111 : Cond.code ⟨"CrossShuts", "sheet", "(III)I"⟩ prog_1_method_30_code 4 (some .int) ∈ xe_tbl := List.mem_filter.mpr ⟨List.mem_of_getElem? (i := 893) rfl, rfl⟩
set_option maxRecDepth 100000 in
theorem xe_cw_112 : Cond.code ⟨"CrossShuts", "lay", "(III)I"⟩ prog_1_method_31_code 5 (some .int) ∈ xe_tbl := List.mem_filter.mpr ⟨List.mem_of_getElem? (i := 910) rfl, rfl⟩
set_option maxRecDepth 100000 in
theorem xe_cw_113 : Cond.code ⟨"CrossShuts", "read", "(IIII)I"⟩ prog_1_method_32_code 8 (some .int) ∈ xe_tbl := List.mem_filter.mpr ⟨List.mem_of_getElem? (i := 926) rfl, rfl⟩
set_option maxRecDepth 100000 in
theorem xe_cw_114 : Cond.code ⟨"CrossShuts", "torn", "()I"⟩ prog_1_method_33_code 1 (some .int) ∈ xe_tbl := List.mem_filter.mpr ⟨List.mem_of_getElem? (i := 935) rfl, rfl⟩
set_option maxRecDepth 100000 in
theorem xe_cw_115 : Cond.code ⟨"CrossShuts", "count", "(I)I"⟩ prog_1_method_34_code 2 (some .int) ∈ xe_tbl := List.mem_filter.mpr ⟨List.mem_of_getElem? (i := 939) rfl, rfl⟩
set_option maxRecDepth 100000 in
theorem xe_cw_116 : Cond.code ⟨"CrossShuts", "orNone", "(I)I"⟩ prog_1_method_35_code 1 (some .int) ∈ xe_tbl := List.mem_filter.mpr ⟨List.mem_of_getElem? (i := 570) rfl, rfl⟩
set_option maxRecDepth 100000 in
theorem xe_cw_117 : Cond.code ⟨"CrossShuts", "asksRow", "(I)Z"⟩ prog_1_method_36_code 1 (some .boolean) ∈ xe_tbl := List.mem_filter.mpr ⟨List.mem_of_getElem? (i := 654) rfl, rfl⟩
set_option maxRecDepth 100000 in
theorem xe_cw_118 : Cond.code ⟨"CrossShuts", "asksPair", "(I)Z"⟩ prog_1_method_37_code 1 (some .boolean) ∈ xe_tbl := List.mem_filter.mpr ⟨List.mem_of_getElem? (i := 763) rfl, rfl⟩
set_option maxRecDepth 100000 in
theorem xe_cw_119 : Cond.code ⟨"CrossShutsModel", "<init>", "()V"⟩ prog_9_method_1_code 1 none ∈ xe_tbl := List.mem_filter.mpr ⟨List.mem_of_getElem? (i := 956) rfl, rfl⟩
set_option maxRecDepth 100000 in
theorem xe_cw_120 : Cond.code ⟨"CrossShutsModel", "in", "(JJJ)Z"⟩ prog_9_method_3_code 6 (some .boolean) ∈ xe_tbl := List.mem_filter.mpr ⟨List.mem_of_getElem? (i := 1093) rfl, rfl⟩
set_option maxRecDepth 100000 in
theorem xe_cw_121 : Cond.code ⟨"CrossShutsModel", "feed", "(J)I"⟩ prog_9_method_4_code 4 (some .int) ∈ xe_tbl := List.mem_filter.mpr ⟨List.mem_of_getElem? (i := 1086) rfl, rfl⟩
set_option maxRecDepth 100000 in
theorem xe_cw_122 : Cond.code ⟨"CrossShutsModel", "end", "(I)I"⟩ prog_9_method_5_code 3 (some .int) ∈ xe_tbl := List.mem_filter.mpr ⟨List.mem_of_getElem? (i := 1090) rfl, rfl⟩
set_option maxRecDepth 100000 in
theorem xe_cw_123 : Cond.code ⟨"CrossShutsModel", "byteAt", "(I)I"⟩ prog_9_method_6_code 2 (some .int) ∈ xe_tbl := List.mem_filter.mpr ⟨List.mem_of_getElem? (i := 1105) rfl, rfl⟩
set_option maxRecDepth 100000 in
theorem xe_cw_124 : Cond.code ⟨"CrossShutsModel", "fails", "(I)V"⟩ prog_9_method_7_code 2 none ∈ xe_tbl := List.mem_filter.mpr ⟨List.mem_of_getElem? (i := 1113) rfl, rfl⟩
set_option maxRecDepth 100000 in
theorem xe_cw_125 : Cond.code ⟨"CrossShutsModel", "nameHere", "()I"⟩ prog_9_method_8_code 4 (some .int) ∈ xe_tbl := List.mem_filter.mpr ⟨List.mem_of_getElem? (i := 1121) rfl, rfl⟩
set_option maxRecDepth 100000 in
theorem xe_cw_126 : Cond.code ⟨"CrossShutsModel", "step", "()V"⟩ prog_9_method_9_code 2 none ∈ xe_tbl := List.mem_filter.mpr ⟨List.mem_of_getElem? (i := 1101) rfl, rfl⟩
set_option maxRecDepth 100000 in
theorem xe_cw_127 : Cond.code ⟨"CrossShutsModel", "other", "(III)I"⟩ prog_9_method_10_code 5 (some .int) ∈ xe_tbl := List.mem_filter.mpr ⟨List.mem_of_getElem? (i := 1134) rfl, rfl⟩
set_option maxRecDepth 100000 in
theorem xe_cw_128 : Cond.code ⟨"CrossShutsModel", "place", "(I)I"⟩ prog_9_method_11_code 3 (some .int) ∈ xe_tbl := List.mem_filter.mpr ⟨List.mem_of_getElem? (i := 1130) rfl, rfl⟩
set_option maxRecDepth 100000 in
theorem xe_cw_129 : Cond.code ⟨"CrossShutsModel", "bridgeOf", "(I)I"⟩ prog_9_method_12_code 3 (some .int) ∈ xe_tbl := List.mem_filter.mpr ⟨List.mem_of_getElem? (i := 1142) rfl, rfl⟩
set_option maxRecDepth 100000 in
theorem xe_cw_130 : Cond.code ⟨"CrossShutsModel", "readBridge", "()V"⟩ prog_9_method_13_code 2 none ∈ xe_tbl := List.mem_filter.mpr ⟨List.mem_of_getElem? (i := 1126) rfl, rfl⟩
set_option maxRecDepth 100000 in
theorem xe_cw_131 : Cond.code ⟨"CrossShutsModel", "readOne", "()V"⟩ prog_9_method_14_code 2 none ∈ xe_tbl := List.mem_filter.mpr ⟨List.mem_of_getElem? (i := 1138) rfl, rfl⟩
set_option maxRecDepth 100000 in
theorem xe_cw_132 : Cond.code ⟨"CrossShutsModel", "readOnce", "(I)V"⟩ prog_9_method_15_code 2 none ∈ xe_tbl := List.mem_filter.mpr ⟨List.mem_of_getElem? (i := 1146) rfl, rfl⟩
set_option maxRecDepth 100000 in
theorem xe_cw_133 : Cond.code ⟨"CrossShutsModel", "readLine", "()V"⟩ prog_9_method_16_code 3 none ∈ xe_tbl := List.mem_filter.mpr ⟨List.mem_of_getElem? (i := 1117) rfl, rfl⟩
set_option maxRecDepth 100000 in
theorem xe_cw_134 : Cond.code ⟨"CrossShutsModel", "text", "()I"⟩ prog_9_method_17_code 3 (some .int) ∈ xe_tbl := List.mem_filter.mpr ⟨List.mem_of_getElem? (i := 1097) rfl, rfl⟩
set_option maxRecDepth 100000 in
theorem xe_cw_135 : Cond.code ⟨"CrossShutsModel", "fault", "()I"⟩ prog_9_method_18_code 1 (some .int) ∈ xe_tbl := List.mem_filter.mpr ⟨List.mem_of_getElem? (i := 1150) rfl, rfl⟩
set_option maxRecDepth 100000 in
theorem xe_cw_136 : Cond.code ⟨"CrossShutsModel", "bridges", "()I"⟩ prog_9_method_19_code 1 (some .int) ∈ xe_tbl := List.mem_filter.mpr ⟨List.mem_of_getElem? (i := 1158) rfl, rfl⟩
set_option maxRecDepth 100000 in
theorem xe_cw_137 : Cond.code ⟨"CrossShutsModel", "isBridge", "(I)Z"⟩ prog_9_method_20_code 2 (some .boolean) ∈ xe_tbl := List.mem_filter.mpr ⟨List.mem_of_getElem? (i := 1170) rfl, rfl⟩
set_option maxRecDepth 100000 in
theorem xe_cw_138 : Cond.code ⟨"CrossShutsModel", "isOne", "(I)Z"⟩ prog_9_method_21_code 2 (some .boolean) ∈ xe_tbl := List.mem_filter.mpr ⟨List.mem_of_getElem? (i := 1179) rfl, rfl⟩
set_option maxRecDepth 100000 in
theorem xe_cw_139 : Cond.code ⟨"CrossShutsModel", "areTwo", "(II)Z"⟩ prog_9_method_22_code 3 (some .boolean) ∈ xe_tbl := List.mem_filter.mpr ⟨List.mem_of_getElem? (i := 1285) rfl, rfl⟩
set_option maxRecDepth 100000 in
theorem xe_cw_140 : Cond.code ⟨"CrossShutsModel", "placeOf", "(I)I"⟩ prog_9_method_23_code 2 (some .int) ∈ xe_tbl := List.mem_filter.mpr ⟨List.mem_of_getElem? (i := 1188) rfl, rfl⟩
set_option maxRecDepth 100000 in
theorem xe_cw_141 : Cond.code ⟨"CrossShutsModel", "goalOf", "(I)I"⟩ prog_9_method_24_code 2 (some .int) ∈ xe_tbl := List.mem_filter.mpr ⟨List.mem_of_getElem? (i := 1196) rfl, rfl⟩
set_option maxRecDepth 100000 in
theorem xe_cw_142 : Cond.code ⟨"CrossShutsModel", "holds", "()I"⟩ prog_9_method_25_code 1 (some .int) ∈ xe_tbl := List.mem_filter.mpr ⟨List.mem_of_getElem? (i := 1162) rfl, rfl⟩
set_option maxRecDepth 100000 in
theorem xe_cw_143 : Cond.code ⟨"CrossShutsModel", "rule", "(I)I"⟩ prog_9_method_26_code 2 (some .int) ∈ xe_tbl := List.mem_filter.mpr ⟨List.mem_of_getElem? (i := 1154) rfl, rfl⟩
set_option maxRecDepth 100000 in
theorem xe_cw_144 : Cond.code ⟨"CrossShutsModel", "bridge", "(II)I"⟩ prog_9_method_27_code 3 (some .int) ∈ xe_tbl := List.mem_filter.mpr ⟨List.mem_of_getElem? (i := 1166) rfl, rfl⟩
set_option maxRecDepth 100000 in
theorem xe_cw_145 : Cond.code ⟨"CrossShutsModel", "worksNow", "()V"⟩ prog_9_method_28_code 2 none ∈ xe_tbl := List.mem_filter.mpr ⟨List.mem_of_getElem? (i := 1184) rfl, rfl⟩
set_option maxRecDepth 100000 in
theorem xe_cw_146 : Cond.code ⟨"CrossShutsModel", "works", "(I)V"⟩ prog_9_method_29_code 3 none ∈ xe_tbl := List.mem_filter.mpr ⟨List.mem_of_getElem? (i := 1261) rfl, rfl⟩
set_option maxRecDepth 100000 in
theorem xe_cw_147 : Cond.code ⟨"CrossShutsModel", "codeNow", "()I"⟩ prog_9_method_30_code 3 (some .int) ∈ xe_tbl := List.mem_filter.mpr ⟨List.mem_of_getElem? (i := 1253) rfl, rfl⟩
set_option maxRecDepth 100000 in
theorem xe_cw_148 : Cond.code ⟨"CrossShutsModel", "canCross", "(II)Z"⟩ prog_9_method_31_code 3 (some .boolean) ∈ xe_tbl := List.mem_filter.mpr ⟨List.mem_of_getElem? (i := 1192) rfl, rfl⟩
set_option maxRecDepth 100000 in
theorem xe_cw_149 : Cond.code ⟨"CrossShutsModel", "shuts", "(I)V"⟩ prog_9_method_32_code 2 none ∈ xe_tbl := List.mem_filter.mpr ⟨List.mem_of_getElem? (i := 1237) rfl, rfl⟩
set_option maxRecDepth 100000 in
theorem xe_cw_150 : Cond.code ⟨"CrossShutsModel", "crosses", "(II)I"⟩ prog_9_method_33_code 4 (some .int) ∈ xe_tbl := List.mem_filter.mpr ⟨List.mem_of_getElem? (i := 1233) rfl, rfl⟩
set_option maxRecDepth 100000 in
theorem xe_cw_151 : Cond.code ⟨"CrossShutsModel", "ends", "()V"⟩ prog_9_method_34_code 2 none ∈ xe_tbl := List.mem_filter.mpr ⟨List.mem_of_getElem? (i := 1241) rfl, rfl⟩
set_option maxRecDepth 100000 in
theorem xe_cw_152 : Cond.code ⟨"CrossShutsModel", "moves", "(II)I"⟩ prog_9_method_35_code 3 (some .int) ∈ xe_tbl := List.mem_filter.mpr ⟨List.mem_of_getElem? (i := 1229) rfl, rfl⟩
set_option maxRecDepth 100000 in
theorem xe_cw_153 : Cond.code ⟨"CrossShutsModel", "one", "(II)I"⟩ prog_9_method_36_code 5 (some .int) ∈ xe_tbl := List.mem_filter.mpr ⟨List.mem_of_getElem? (i := 1175) rfl, rfl⟩
set_option maxRecDepth 100000 in
theorem xe_cw_154 : Cond.code ⟨"CrossShutsModel", "law", "(I)I"⟩ prog_9_method_37_code 3 (some .int) ∈ xe_tbl := List.mem_filter.mpr ⟨List.mem_of_getElem? (i := 1200) rfl, rfl⟩
set_option maxRecDepth 100000 in
theorem xe_cw_155 : Cond.code ⟨"CrossShutsModel", "hold", "(I)I"⟩ prog_9_method_38_code 3 (some .int) ∈ xe_tbl := List.mem_filter.mpr ⟨List.mem_of_getElem? (i := 1204) rfl, rfl⟩
set_option maxRecDepth 100000 in
theorem xe_cw_156 : Cond.code ⟨"CrossShutsModel", "chain", "(II)I"⟩ prog_9_method_39_code 4 (some .int) ∈ xe_tbl := List.mem_filter.mpr ⟨List.mem_of_getElem? (i := 1208) rfl, rfl⟩
set_option maxRecDepth 100000 in
theorem xe_cw_157 : Cond.code ⟨"CrossShutsModel", "shut", "(II)I"⟩ prog_9_method_40_code 4 (some .int) ∈ xe_tbl := List.mem_filter.mpr ⟨List.mem_of_getElem? (i := 1212) rfl, rfl⟩
set_option maxRecDepth 100000 in
theorem xe_cw_158 : Cond.code ⟨"CrossShutsModel", "send", "(III)I"⟩ prog_9_method_41_code 5 (some .int) ∈ xe_tbl := List.mem_filter.mpr ⟨List.mem_of_getElem? (i := 1216) rfl, rfl⟩
set_option maxRecDepth 100000 in
theorem xe_cw_159 : Cond.code ⟨"CrossShutsModel", "goesBy", "(I)I"⟩ prog_9_method_42_code 6 (some .int) ∈ xe_tbl := List.mem_filter.mpr ⟨List.mem_of_getElem? (i := 1224) rfl, rfl⟩
set_option maxRecDepth 100000 in
theorem xe_cw_160 : Cond.code ⟨"CrossShutsModel", "minute", "(I)I"⟩ prog_9_method_43_code 2 (some .int) ∈ xe_tbl := List.mem_filter.mpr ⟨List.mem_of_getElem? (i := 1220) rfl, rfl⟩
set_option maxRecDepth 100000 in
theorem xe_cw_161 : Cond.code ⟨"CrossShutsModel", "begins", "(I)V"⟩ prog_9_method_44_code 3 none ∈ xe_tbl := List.mem_filter.mpr ⟨List.mem_of_getElem? (i := 1257) rfl, rfl⟩
set_option maxRecDepth 100000 in
theorem xe_cw_162 : Cond.code ⟨"CrossShutsModel", "finds", "(III)V"⟩ prog_9_method_45_code 4 none ∈ xe_tbl := List.mem_filter.mpr ⟨List.mem_of_getElem? (i := 1265) rfl, rfl⟩
set_option maxRecDepth 100000 in
theorem xe_cw_163 : Cond.code ⟨"CrossShutsModel", "tracesBack", "(I)I"⟩ prog_9_method_46_code 5 (some .int) ∈ xe_tbl := List.mem_filter.mpr ⟨List.mem_of_getElem? (i := 1273) rfl, rfl⟩
set_option maxRecDepth 100000 in
theorem xe_cw_164 : Cond.code ⟨"CrossShutsModel", "searchesOne", "(II)I"⟩ prog_9_method_47_code 7 (some .int) ∈ xe_tbl := List.mem_filter.mpr ⟨List.mem_of_getElem? (i := 1249) rfl, rfl⟩
set_option maxRecDepth 100000 in
theorem xe_cw_165 : Cond.code ⟨"CrossShutsModel", "told", "(II)I"⟩ prog_9_method_48_code 4 (some .int) ∈ xe_tbl := List.mem_filter.mpr ⟨List.mem_of_getElem? (i := 1269) rfl, rfl⟩
set_option maxRecDepth 100000 in
theorem xe_cw_166 : Cond.code ⟨"CrossShutsModel", "way", "(II)I"⟩ prog_9_method_49_code 3 (some .int) ∈ xe_tbl := List.mem_filter.mpr ⟨List.mem_of_getElem? (i := 1245) rfl, rfl⟩
set_option maxRecDepth 100000 in
theorem xe_cw_167 : Cond.code ⟨"CrossShutsModel", "can", "(I)I"⟩ prog_9_method_50_code 4 (some .int) ∈ xe_tbl := List.mem_filter.mpr ⟨List.mem_of_getElem? (i := 1277) rfl, rfl⟩
set_option maxRecDepth 100000 in
theorem xe_cw_168 : Cond.code ⟨"CrossShutsModel", "both", "(III)I"⟩ prog_9_method_51_code 12 (some .int) ∈ xe_tbl := List.mem_filter.mpr ⟨List.mem_of_getElem? (i := 1281) rfl, rfl⟩
set_option maxRecDepth 100000 in
theorem xe_cw_169 : Cond.code ⟨"CrossShutsModel", "rings", "()I"⟩ prog_9_method_52_code 5 (some .int) ∈ xe_tbl := List.mem_filter.mpr ⟨List.mem_of_getElem? (i := 1289) rfl, rfl⟩
set_option maxRecDepth 100000 in
theorem xe_cw_170 : Cond.code ⟨"CrossShutsModel", "guard", "(IIII)I"⟩ prog_9_method_53_code 10 (some .int) ∈ xe_tbl := List.mem_filter.mpr ⟨List.mem_of_getElem? (i := 1293) rfl, rfl⟩
set_option maxRecDepth 100000 in
theorem xe_cw_171 : Cond.code ⟨"CrossShutsModel", "guards", "(IIII)I"⟩ prog_9_method_54_code 10 (some .int) ∈ xe_tbl := List.mem_filter.mpr ⟨List.mem_of_getElem? (i := 1297) rfl, rfl⟩
set_option maxRecDepth 100000 in
theorem xe_cw_172 : Cond.code ⟨"CrossShutsModel", "wideNow", "()I"⟩ prog_9_method_55_code 3 (some .int) ∈ xe_tbl := List.mem_filter.mpr ⟨List.mem_of_getElem? (i := 1309) rfl, rfl⟩
set_option maxRecDepth 100000 in
theorem xe_cw_173 : Cond.code ⟨"CrossShutsModel", "worksWide", "(I)V"⟩ prog_9_method_56_code 3 none ∈ xe_tbl := List.mem_filter.mpr ⟨List.mem_of_getElem? (i := 1325) rfl, rfl⟩
set_option maxRecDepth 100000 in
theorem xe_cw_174 : Cond.code ⟨"CrossShutsModel", "lays", "(IIII)V"⟩ prog_9_method_57_code 5 none ∈ xe_tbl := List.mem_filter.mpr ⟨List.mem_of_getElem? (i := 1313) rfl, rfl⟩
set_option maxRecDepth 100000 in
theorem xe_cw_175 : Cond.code ⟨"CrossShutsModel", "wins", "(III)Z"⟩ prog_9_method_58_code 8 (some .boolean) ∈ xe_tbl := List.mem_filter.mpr ⟨List.mem_of_getElem? (i := 1317) rfl, rfl⟩
set_option maxRecDepth 100000 in
theorem xe_cw_176 : Cond.code ⟨"CrossShutsModel", "tries", "(II)Z"⟩ prog_9_method_59_code 5 (some .boolean) ∈ xe_tbl := List.mem_filter.mpr ⟨List.mem_of_getElem? (i := 1321) rfl, rfl⟩
set_option maxRecDepth 100000 in
theorem xe_cw_177 : Cond.code ⟨"CrossShutsModel", "winsIn", "(IIII)Z"⟩ prog_9_method_60_code 6 (some .boolean) ∈ xe_tbl := List.mem_filter.mpr ⟨List.mem_of_getElem? (i := 1305) rfl, rfl⟩
set_option maxRecDepth 100000 in
theorem xe_cw_178 : Cond.code ⟨"CrossShutsModel", "game", "(IIII)I"⟩ prog_9_method_61_code 7 (some .int) ∈ xe_tbl := List.mem_filter.mpr ⟨List.mem_of_getElem? (i := 1301) rfl, rfl⟩
set_option maxRecDepth 100000 in
theorem xe_cw_179 : Cond.code ⟨"CrossShutsModel", "relay", "(II)I"⟩ prog_9_method_62_code 10 (some .int) ∈ xe_tbl := List.mem_filter.mpr ⟨List.mem_of_getElem? (i := 1329) rfl, rfl⟩
set_option maxRecDepth 100000 in
theorem xe_cw_180 : Cond.code ⟨"CrossShutsModel", "lowest", "(JJI)J"⟩ prog_9_method_63_code 11 (some .long) ∈ xe_tbl := List.mem_filter.mpr ⟨List.mem_of_getElem? (i := 1351) rfl, rfl⟩
set_option maxRecDepth 100000 in
theorem xe_cw_181 : Cond.code ⟨"CrossShutsModel", "bridgeAt", "(II)I"⟩ prog_9_method_64_code 5 (some .int) ∈ xe_tbl := List.mem_filter.mpr ⟨List.mem_of_getElem? (i := 1348) rfl, rfl⟩
set_option maxRecDepth 100000 in
theorem xe_cw_182 : Cond.code ⟨"CrossShutsModel", "manyAt", "(I)I"⟩ prog_9_method_65_code 3 (some .int) ∈ xe_tbl := List.mem_filter.mpr ⟨List.mem_of_getElem? (i := 1344) rfl, rfl⟩
set_option maxRecDepth 100000 in
theorem xe_cw_183 : Cond.code ⟨"CrossShutsModel", "weighs", "(III)J"⟩ prog_9_method_66_code 12 (some .long) ∈ xe_tbl := List.mem_filter.mpr ⟨List.mem_of_getElem? (i := 1340) rfl, rfl⟩
set_option maxRecDepth 100000 in
theorem xe_cw_184 : Cond.code ⟨"CrossShutsModel", "chance", "(III)J"⟩ prog_9_method_67_code 10 (some .long) ∈ xe_tbl := List.mem_filter.mpr ⟨List.mem_of_getElem? (i := 1333) rfl, rfl⟩
set_option maxRecDepth 100000 in
theorem xe_cw_185 : Cond.code ⟨"CrossShutsModel", "saw", "(IIZ)I"⟩ prog_9_method_68_code 4 (some .int) ∈ xe_tbl := List.mem_filter.mpr ⟨List.mem_of_getElem? (i := 1355) rfl, rfl⟩
set_option maxRecDepth 100000 in
theorem xe_cw_186 : Cond.code ⟨"CrossShutsModel", "forget", "(I)I"⟩ prog_9_method_69_code 3 (some .int) ∈ xe_tbl := List.mem_filter.mpr ⟨List.mem_of_getElem? (i := 1359) rfl, rfl⟩
set_option maxRecDepth 100000 in
theorem xe_cw_187 : Cond.code ⟨"CrossShutsModel", "laysRig", "(I)V"⟩ prog_9_method_70_code 6 none ∈ xe_tbl := List.mem_filter.mpr ⟨List.mem_of_getElem? (i := 1372) rfl, rfl⟩
set_option maxRecDepth 100000 in
theorem xe_cw_188 : Cond.code ⟨"CrossShutsModel", "rigMany", "()I"⟩ prog_9_method_71_code 3 (some .int) ∈ xe_tbl := List.mem_filter.mpr ⟨List.mem_of_getElem? (i := 1368) rfl, rfl⟩
set_option maxRecDepth 100000 in
theorem xe_cw_189 : Cond.code ⟨"CrossShutsModel", "goesByRig", "(I)Z"⟩ prog_9_method_72_code 3 (some .boolean) ∈ xe_tbl := List.mem_filter.mpr ⟨List.mem_of_getElem? (i := 1380) rfl, rfl⟩
set_option maxRecDepth 100000 in
theorem xe_cw_190 : Cond.code ⟨"CrossShutsModel", "fits", "()Z"⟩ prog_9_method_73_code 2 (some .boolean) ∈ xe_tbl := List.mem_filter.mpr ⟨List.mem_of_getElem? (i := 1376) rfl, rfl⟩
set_option maxRecDepth 100000 in
theorem xe_cw_191 : Cond.code ⟨"CrossShutsModel", "rigs", "(I)I"⟩ prog_9_method_74_code 5 (some .int) ∈ xe_tbl := List.mem_filter.mpr ⟨List.mem_of_getElem? (i := 1363) rfl, rfl⟩
set_option maxRecDepth 100000 in
theorem xe_cw_192 : Cond.code ⟨"CrossShutsModel", "hangs", "(I)I"⟩ prog_9_method_75_code 4 (some .int) ∈ xe_tbl := List.mem_filter.mpr ⟨List.mem_of_getElem? (i := 1384) rfl, rfl⟩
set_option maxRecDepth 100000 in
theorem xe_cw_193 : Cond.code ⟨"CrossShutsModel", "laysLooks", "()V"⟩ prog_9_method_76_code 5 none ∈ xe_tbl := List.mem_filter.mpr ⟨List.mem_of_getElem? (i := 1392) rfl, rfl⟩
set_option maxRecDepth 100000 in
theorem xe_cw_194 : Cond.code ⟨"CrossShutsModel", "look", "(I)I"⟩ prog_9_method_77_code 8 (some .int) ∈ xe_tbl := List.mem_filter.mpr ⟨List.mem_of_getElem? (i := 1388) rfl, rfl⟩
set_option maxRecDepth 100000 in
theorem xe_cw_195 : Cond.code ⟨"CrossShutsModel", "copies", "(II)V"⟩ prog_9_method_78_code 4 none ∈ xe_tbl := List.mem_filter.mpr ⟨List.mem_of_getElem? (i := 1400) rfl, rfl⟩
set_option maxRecDepth 100000 in
theorem xe_cw_196 : Cond.code ⟨"CrossShutsModel", "keep", "(I)I"⟩ prog_9_method_79_code 3 (some .int) ∈ xe_tbl := List.mem_filter.mpr ⟨List.mem_of_getElem? (i := 1396) rfl, rfl⟩
set_option maxRecDepth 100000 in
theorem xe_cw_197 : Cond.code ⟨"CrossShutsModel", "back", "(I)I"⟩ prog_9_method_80_code 2 (some .int) ∈ xe_tbl := List.mem_filter.mpr ⟨List.mem_of_getElem? (i := 1404) rfl, rfl⟩
set_option maxRecDepth 100000 in
theorem xe_cw_198 : Cond.code ⟨"CrossShutsModel", "sheet", "(III)I"⟩ prog_9_method_81_code 5 (some .int) ∈ xe_tbl := List.mem_filter.mpr ⟨List.mem_of_getElem? (i := 1408) rfl, rfl⟩
set_option maxRecDepth 100000 in
theorem xe_cw_199 : Cond.code ⟨"CrossShutsModel", "lay", "(III)I"⟩ prog_9_method_82_code 4 (some .int) ∈ xe_tbl := List.mem_filter.mpr ⟨List.mem_of_getElem? (i := 1412) rfl, rfl⟩
set_option maxRecDepth 100000 in
theorem xe_cw_200 : Cond.code ⟨"CrossShutsModel", "read", "(IIII)I"⟩ prog_9_method_83_code 7 (some .int) ∈ xe_tbl := List.mem_filter.mpr ⟨List.mem_of_getElem? (i := 1416) rfl, rfl⟩
set_option maxRecDepth 100000 in
theorem xe_cw_201 : Cond.code ⟨"CrossShutsModel", "torn", "()I"⟩ prog_9_method_84_code 1 (some .int) ∈ xe_tbl := List.mem_filter.mpr ⟨List.mem_of_getElem? (i := 1421) rfl, rfl⟩
set_option maxRecDepth 100000 in
theorem xe_cw_202 : Cond.code ⟨"CrossShutsModel", "count", "(I)I"⟩ prog_9_method_85_code 5 (some .int) ∈ xe_tbl := List.mem_filter.mpr ⟨List.mem_of_getElem? (i := 1425) rfl, rfl⟩
set_option maxRecDepth 100000 in
theorem xe_cw_203 : Cond.code ⟨"java/lang/String", "length", "()I"⟩ prog_12_method_54_code 1 (some .int) ∈ xe_tbl := List.mem_filter.mpr ⟨List.mem_of_getElem? (i := 471) rfl, rfl⟩
set_option maxRecDepth 100000 in
theorem xe_cw_204 : Cond.code ⟨"java/lang/String", "charAt", "(I)C"⟩ prog_12_method_56_code 2 (some .char) ∈ xe_tbl := List.mem_filter.mpr ⟨List.mem_of_getElem? (i := 481) rfl, rfl⟩
set_option maxRecDepth 100000 in
theorem xe_cw_205 : Cond.code ⟨"java/lang/String", "coder", "()B"⟩ prog_12_method_152_code 1 (some .byte) ∈ xe_tbl := List.mem_filter.mpr ⟨List.mem_of_getElem? (i := 475) rfl, rfl⟩
set_option maxRecDepth 100000 in
theorem xe_cw_206 : Cond.code ⟨"java/lang/String", "isLatin1", "()Z"⟩ prog_12_method_154_code 1 (some .boolean) ∈ xe_tbl := List.mem_filter.mpr ⟨List.mem_of_getElem? (i := 485) rfl, rfl⟩
set_option maxRecDepth 100000 in
theorem xe_cw_207 : Cond.code ⟨"java/lang/String", "checkIndex", "(II)V"⟩ prog_12_method_155_code 2 none ∈ xe_tbl := List.mem_filter.mpr ⟨List.mem_of_getElem? (i := 491) rfl, rfl⟩
set_option maxRecDepth 100000 in
theorem xe_cw_208 : Cond.code ⟨"java/lang/StringLatin1", "charAt", "([BI)C"⟩ prog_13_method_2_code 2 (some .char) ∈ xe_tbl := List.mem_filter.mpr ⟨List.mem_of_getElem? (i := 488) rfl, rfl⟩
set_option maxRecDepth 100000 in
theorem xe_cw_209 : Cond.code ⟨"java/lang/StringUTF16", "getChar", "([BI)C"⟩ prog_14_method_5_code 2 (some .char) ∈ xe_tbl := List.mem_filter.mpr ⟨List.mem_of_getElem? (i := 509) rfl, rfl⟩
set_option maxRecDepth 100000 in
theorem xe_cw_210 : Cond.code ⟨"java/lang/StringUTF16", "length", "([B)I"⟩ prog_14_method_6_code 1 (some .int) ∈ xe_tbl := List.mem_filter.mpr ⟨List.mem_of_getElem? (i := 505) rfl, rfl⟩
set_option maxRecDepth 100000 in
theorem xe_cw_211 : Cond.code ⟨"java/lang/StringUTF16", "charAt", "([BI)C"⟩ prog_14_method_83_code 2 (some .char) ∈ xe_tbl := List.mem_filter.mpr ⟨List.mem_of_getElem? (i := 499) rfl, rfl⟩
set_option maxRecDepth 100000 in
theorem xe_cw_212 : Cond.code ⟨"java/lang/StringUTF16", "checkIndex", "(I[B)V"⟩ prog_14_method_91_code 2 none ∈ xe_tbl := List.mem_filter.mpr ⟨List.mem_of_getElem? (i := 502) rfl, rfl⟩
set_option maxRecDepth 100000 in
theorem xe_cw_213 : Cond.code ⟨"java/util/Arrays", "rangeCheck", "(III)V"⟩ prog_16_method_30_code 3 none ∈ xe_tbl := List.mem_filter.mpr ⟨List.mem_of_getElem? (i := 669) rfl, rfl⟩
set_option maxRecDepth 100000 in
theorem xe_cw_214 : Cond.code ⟨"java/util/Arrays", "fill", "([JIIJ)V"⟩ prog_16_method_102_code 6 none ∈ xe_tbl := List.mem_filter.mpr ⟨List.mem_of_getElem? (i := 666) rfl, rfl⟩
set_option maxRecDepth 100000 in
theorem xe_cw_215 : Cond.code ⟨"java/util/Arrays", "fill", "([II)V"⟩ prog_16_method_103_code 4 none ∈ xe_tbl := List.mem_filter.mpr ⟨List.mem_of_getElem? (i := 112) rfl, rfl⟩
set_option maxRecDepth 100000 in
theorem xe_cw_216 : Cond.code ⟨"java/util/Arrays", "fill", "([IIII)V"⟩ prog_16_method_104_code 5 none ∈ xe_tbl := List.mem_filter.mpr ⟨List.mem_of_getElem? (i := 906) rfl, rfl⟩
set_option maxRecDepth 100000 in
theorem xe_cw_217 : Cond.code ⟨"java/util/Arrays", "copyOf", "([JI)[J"⟩ prog_16_method_124_code 3 (some (.array .long)) ∈ xe_tbl := List.mem_filter.mpr ⟨List.mem_of_getElem? (i := 679) rfl, rfl⟩
set_option maxRecDepth 100000 in
theorem xe_cw_218 : Cond.code ⟨"jdk/internal/util/Preconditions", "checkIndex", "(IILjava/util/function/BiFunction;)I"⟩ prog_17_method_11_code 3 (some .int) ∈ xe_tbl := List.mem_filter.mpr ⟨List.mem_of_getElem? (i := 496) rfl, rfl⟩
set_option maxRecDepth 100000 in
theorem xe_cws_0 : ∀ m ∈ xe_mL0, Cond.code m.2.1 m.2.2.1 m.2.2.2.1 m.2.2.2.2.1 ∈ xe_tbl := List.forall_mem_cons.mpr ⟨xe_cw_0, List.forall_mem_cons.mpr ⟨xe_cw_1, List.forall_mem_cons.mpr ⟨xe_cw_2, List.forall_mem_cons.mpr ⟨xe_cw_3, List.forall_mem_cons.mpr ⟨xe_cw_4, List.forall_mem_cons.mpr ⟨xe_cw_5, List.forall_mem_cons.mpr ⟨xe_cw_6, List.forall_mem_cons.mpr ⟨xe_cw_7, List.forall_mem_cons.mpr ⟨xe_cw_8, List.forall_mem_cons.mpr ⟨xe_cw_9, List.forall_mem_cons.mpr ⟨xe_cw_10, List.forall_mem_cons.mpr ⟨xe_cw_11, List.forall_mem_cons.mpr ⟨xe_cw_12, List.forall_mem_cons.mpr ⟨xe_cw_13, List.forall_mem_cons.mpr ⟨xe_cw_14, List.forall_mem_cons.mpr ⟨xe_cw_15, List.forall_mem_cons.mpr ⟨xe_cw_16, List.forall_mem_cons.mpr ⟨xe_cw_17, List.forall_mem_cons.mpr ⟨xe_cw_18, List.forall_mem_cons.mpr ⟨xe_cw_19, List.forall_mem_cons.mpr ⟨xe_cw_20, List.forall_mem_cons.mpr ⟨xe_cw_21, List.forall_mem_cons.mpr ⟨xe_cw_22, List.forall_mem_cons.mpr ⟨xe_cw_23, List.forall_mem_cons.mpr ⟨xe_cw_24, List.forall_mem_cons.mpr ⟨xe_cw_25, List.forall_mem_cons.mpr ⟨xe_cw_26, List.forall_mem_cons.mpr ⟨xe_cw_27, List.forall_mem_cons.mpr ⟨xe_cw_28, List.forall_mem_cons.mpr ⟨xe_cw_29, List.forall_mem_cons.mpr ⟨xe_cw_30, List.forall_mem_cons.mpr ⟨xe_cw_31, List.forall_mem_cons.mpr ⟨xe_cw_32, List.forall_mem_cons.mpr ⟨xe_cw_33, List.forall_mem_cons.mpr ⟨xe_cw_34, List.forall_mem_cons.mpr ⟨xe_cw_35, List.forall_mem_cons.mpr ⟨xe_cw_36, List.forall_mem_cons.mpr ⟨xe_cw_37, List.forall_mem_cons.mpr ⟨xe_cw_38, List.forall_mem_cons.mpr ⟨xe_cw_39, fun _ h => absurd h List.not_mem_nil⟩⟩⟩⟩⟩⟩⟩⟩⟩⟩⟩⟩⟩⟩⟩⟩⟩⟩⟩⟩⟩⟩⟩⟩⟩⟩⟩⟩⟩⟩⟩⟩⟩⟩⟩⟩⟩⟩⟩⟩
set_option maxRecDepth 100000 in
theorem xe_cws_1 : ∀ m ∈ xe_mL1, Cond.code m.2.1 m.2.2.1 m.2.2.2.1 m.2.2.2.2.1 ∈ xe_tbl := List.forall_mem_cons.mpr ⟨xe_cw_40, List.forall_mem_cons.mpr ⟨xe_cw_41, List.forall_mem_cons.mpr ⟨xe_cw_42, List.forall_mem_cons.mpr ⟨xe_cw_43, List.forall_mem_cons.mpr ⟨xe_cw_44, List.forall_mem_cons.mpr ⟨xe_cw_45, List.forall_mem_cons.mpr ⟨xe_cw_46, List.forall_mem_cons.mpr ⟨xe_cw_47, List.forall_mem_cons.mpr ⟨xe_cw_48, List.forall_mem_cons.mpr ⟨xe_cw_49, List.forall_mem_cons.mpr ⟨xe_cw_50, List.forall_mem_cons.mpr ⟨xe_cw_51, List.forall_mem_cons.mpr ⟨xe_cw_52, List.forall_mem_cons.mpr ⟨xe_cw_53, List.forall_mem_cons.mpr ⟨xe_cw_54, List.forall_mem_cons.mpr ⟨xe_cw_55, List.forall_mem_cons.mpr ⟨xe_cw_56, List.forall_mem_cons.mpr ⟨xe_cw_57, List.forall_mem_cons.mpr ⟨xe_cw_58, List.forall_mem_cons.mpr ⟨xe_cw_59, List.forall_mem_cons.mpr ⟨xe_cw_60, List.forall_mem_cons.mpr ⟨xe_cw_61, List.forall_mem_cons.mpr ⟨xe_cw_62, List.forall_mem_cons.mpr ⟨xe_cw_63, List.forall_mem_cons.mpr ⟨xe_cw_64, List.forall_mem_cons.mpr ⟨xe_cw_65, List.forall_mem_cons.mpr ⟨xe_cw_66, List.forall_mem_cons.mpr ⟨xe_cw_67, List.forall_mem_cons.mpr ⟨xe_cw_68, List.forall_mem_cons.mpr ⟨xe_cw_69, List.forall_mem_cons.mpr ⟨xe_cw_70, List.forall_mem_cons.mpr ⟨xe_cw_71, List.forall_mem_cons.mpr ⟨xe_cw_72, List.forall_mem_cons.mpr ⟨xe_cw_73, List.forall_mem_cons.mpr ⟨xe_cw_74, List.forall_mem_cons.mpr ⟨xe_cw_75, List.forall_mem_cons.mpr ⟨xe_cw_76, List.forall_mem_cons.mpr ⟨xe_cw_77, List.forall_mem_cons.mpr ⟨xe_cw_78, List.forall_mem_cons.mpr ⟨xe_cw_79, fun _ h => absurd h List.not_mem_nil⟩⟩⟩⟩⟩⟩⟩⟩⟩⟩⟩⟩⟩⟩⟩⟩⟩⟩⟩⟩⟩⟩⟩⟩⟩⟩⟩⟩⟩⟩⟩⟩⟩⟩⟩⟩⟩⟩⟩⟩
set_option maxRecDepth 100000 in
theorem xe_cws_2 : ∀ m ∈ xe_mL2, Cond.code m.2.1 m.2.2.1 m.2.2.2.1 m.2.2.2.2.1 ∈ xe_tbl := List.forall_mem_cons.mpr ⟨xe_cw_80, List.forall_mem_cons.mpr ⟨xe_cw_81, List.forall_mem_cons.mpr ⟨xe_cw_82, List.forall_mem_cons.mpr ⟨xe_cw_83, List.forall_mem_cons.mpr ⟨xe_cw_84, List.forall_mem_cons.mpr ⟨xe_cw_85, List.forall_mem_cons.mpr ⟨xe_cw_86, List.forall_mem_cons.mpr ⟨xe_cw_87, List.forall_mem_cons.mpr ⟨xe_cw_88, List.forall_mem_cons.mpr ⟨xe_cw_89, List.forall_mem_cons.mpr ⟨xe_cw_90, List.forall_mem_cons.mpr ⟨xe_cw_91, List.forall_mem_cons.mpr ⟨xe_cw_92, List.forall_mem_cons.mpr ⟨xe_cw_93, List.forall_mem_cons.mpr ⟨xe_cw_94, List.forall_mem_cons.mpr ⟨xe_cw_95, List.forall_mem_cons.mpr ⟨xe_cw_96, List.forall_mem_cons.mpr ⟨xe_cw_97, List.forall_mem_cons.mpr ⟨xe_cw_98, List.forall_mem_cons.mpr ⟨xe_cw_99, List.forall_mem_cons.mpr ⟨xe_cw_100, List.forall_mem_cons.mpr ⟨xe_cw_101, List.forall_mem_cons.mpr ⟨xe_cw_102, List.forall_mem_cons.mpr ⟨xe_cw_103, List.forall_mem_cons.mpr ⟨xe_cw_104, List.forall_mem_cons.mpr ⟨xe_cw_105, List.forall_mem_cons.mpr ⟨xe_cw_106, List.forall_mem_cons.mpr ⟨xe_cw_107, List.forall_mem_cons.mpr ⟨xe_cw_108, List.forall_mem_cons.mpr ⟨xe_cw_109, List.forall_mem_cons.mpr ⟨xe_cw_110, List.forall_mem_cons.mpr ⟨xe_cw_111, List.forall_mem_cons.mpr ⟨xe_cw_112, List.forall_mem_cons.mpr ⟨xe_cw_113, List.forall_mem_cons.mpr ⟨xe_cw_114, List.forall_mem_cons.mpr ⟨xe_cw_115, List.forall_mem_cons.mpr ⟨xe_cw_116, List.forall_mem_cons.mpr ⟨xe_cw_117, List.forall_mem_cons.mpr ⟨xe_cw_118, List.forall_mem_cons.mpr ⟨xe_cw_119, fun _ h => absurd h List.not_mem_nil⟩⟩⟩⟩⟩⟩⟩⟩⟩⟩⟩⟩⟩⟩⟩⟩⟩⟩⟩⟩⟩⟩⟩⟩⟩⟩⟩⟩⟩⟩⟩⟩⟩⟩⟩⟩⟩⟩⟩⟩
set_option maxRecDepth 100000 in
theorem xe_cws_3 : ∀ m ∈ xe_mL3, Cond.code m.2.1 m.2.2.1 m.2.2.2.1 m.2.2.2.2.1 ∈ xe_tbl := List.forall_mem_cons.mpr ⟨xe_cw_120, List.forall_mem_cons.mpr ⟨xe_cw_121, List.forall_mem_cons.mpr ⟨xe_cw_122, List.forall_mem_cons.mpr ⟨xe_cw_123, List.forall_mem_cons.mpr ⟨xe_cw_124, List.forall_mem_cons.mpr ⟨xe_cw_125, List.forall_mem_cons.mpr ⟨xe_cw_126, List.forall_mem_cons.mpr ⟨xe_cw_127, List.forall_mem_cons.mpr ⟨xe_cw_128, List.forall_mem_cons.mpr ⟨xe_cw_129, List.forall_mem_cons.mpr ⟨xe_cw_130, List.forall_mem_cons.mpr ⟨xe_cw_131, List.forall_mem_cons.mpr ⟨xe_cw_132, List.forall_mem_cons.mpr ⟨xe_cw_133, List.forall_mem_cons.mpr ⟨xe_cw_134, List.forall_mem_cons.mpr ⟨xe_cw_135, List.forall_mem_cons.mpr ⟨xe_cw_136, List.forall_mem_cons.mpr ⟨xe_cw_137, List.forall_mem_cons.mpr ⟨xe_cw_138, List.forall_mem_cons.mpr ⟨xe_cw_139, List.forall_mem_cons.mpr ⟨xe_cw_140, List.forall_mem_cons.mpr ⟨xe_cw_141, List.forall_mem_cons.mpr ⟨xe_cw_142, List.forall_mem_cons.mpr ⟨xe_cw_143, List.forall_mem_cons.mpr ⟨xe_cw_144, List.forall_mem_cons.mpr ⟨xe_cw_145, List.forall_mem_cons.mpr ⟨xe_cw_146, List.forall_mem_cons.mpr ⟨xe_cw_147, List.forall_mem_cons.mpr ⟨xe_cw_148, List.forall_mem_cons.mpr ⟨xe_cw_149, List.forall_mem_cons.mpr ⟨xe_cw_150, List.forall_mem_cons.mpr ⟨xe_cw_151, List.forall_mem_cons.mpr ⟨xe_cw_152, List.forall_mem_cons.mpr ⟨xe_cw_153, List.forall_mem_cons.mpr ⟨xe_cw_154, List.forall_mem_cons.mpr ⟨xe_cw_155, List.forall_mem_cons.mpr ⟨xe_cw_156, List.forall_mem_cons.mpr ⟨xe_cw_157, List.forall_mem_cons.mpr ⟨xe_cw_158, List.forall_mem_cons.mpr ⟨xe_cw_159, fun _ h => absurd h List.not_mem_nil⟩⟩⟩⟩⟩⟩⟩⟩⟩⟩⟩⟩⟩⟩⟩⟩⟩⟩⟩⟩⟩⟩⟩⟩⟩⟩⟩⟩⟩⟩⟩⟩⟩⟩⟩⟩⟩⟩⟩⟩
set_option maxRecDepth 100000 in
theorem xe_cws_4 : ∀ m ∈ xe_mL4, Cond.code m.2.1 m.2.2.1 m.2.2.2.1 m.2.2.2.2.1 ∈ xe_tbl := List.forall_mem_cons.mpr ⟨xe_cw_160, List.forall_mem_cons.mpr ⟨xe_cw_161, List.forall_mem_cons.mpr ⟨xe_cw_162, List.forall_mem_cons.mpr ⟨xe_cw_163, List.forall_mem_cons.mpr ⟨xe_cw_164, List.forall_mem_cons.mpr ⟨xe_cw_165, List.forall_mem_cons.mpr ⟨xe_cw_166, List.forall_mem_cons.mpr ⟨xe_cw_167, List.forall_mem_cons.mpr ⟨xe_cw_168, List.forall_mem_cons.mpr ⟨xe_cw_169, List.forall_mem_cons.mpr ⟨xe_cw_170, List.forall_mem_cons.mpr ⟨xe_cw_171, List.forall_mem_cons.mpr ⟨xe_cw_172, List.forall_mem_cons.mpr ⟨xe_cw_173, List.forall_mem_cons.mpr ⟨xe_cw_174, List.forall_mem_cons.mpr ⟨xe_cw_175, List.forall_mem_cons.mpr ⟨xe_cw_176, List.forall_mem_cons.mpr ⟨xe_cw_177, List.forall_mem_cons.mpr ⟨xe_cw_178, List.forall_mem_cons.mpr ⟨xe_cw_179, List.forall_mem_cons.mpr ⟨xe_cw_180, List.forall_mem_cons.mpr ⟨xe_cw_181, List.forall_mem_cons.mpr ⟨xe_cw_182, List.forall_mem_cons.mpr ⟨xe_cw_183, List.forall_mem_cons.mpr ⟨xe_cw_184, List.forall_mem_cons.mpr ⟨xe_cw_185, List.forall_mem_cons.mpr ⟨xe_cw_186, List.forall_mem_cons.mpr ⟨xe_cw_187, List.forall_mem_cons.mpr ⟨xe_cw_188, List.forall_mem_cons.mpr ⟨xe_cw_189, List.forall_mem_cons.mpr ⟨xe_cw_190, List.forall_mem_cons.mpr ⟨xe_cw_191, List.forall_mem_cons.mpr ⟨xe_cw_192, List.forall_mem_cons.mpr ⟨xe_cw_193, List.forall_mem_cons.mpr ⟨xe_cw_194, List.forall_mem_cons.mpr ⟨xe_cw_195, List.forall_mem_cons.mpr ⟨xe_cw_196, List.forall_mem_cons.mpr ⟨xe_cw_197, List.forall_mem_cons.mpr ⟨xe_cw_198, List.forall_mem_cons.mpr ⟨xe_cw_199, fun _ h => absurd h List.not_mem_nil⟩⟩⟩⟩⟩⟩⟩⟩⟩⟩⟩⟩⟩⟩⟩⟩⟩⟩⟩⟩⟩⟩⟩⟩⟩⟩⟩⟩⟩⟩⟩⟩⟩⟩⟩⟩⟩⟩⟩⟩
set_option maxRecDepth 100000 in
theorem xe_cws_5 : ∀ m ∈ xe_mL5, Cond.code m.2.1 m.2.2.1 m.2.2.2.1 m.2.2.2.2.1 ∈ xe_tbl := List.forall_mem_cons.mpr ⟨xe_cw_200, List.forall_mem_cons.mpr ⟨xe_cw_201, List.forall_mem_cons.mpr ⟨xe_cw_202, List.forall_mem_cons.mpr ⟨xe_cw_203, List.forall_mem_cons.mpr ⟨xe_cw_204, List.forall_mem_cons.mpr ⟨xe_cw_205, List.forall_mem_cons.mpr ⟨xe_cw_206, List.forall_mem_cons.mpr ⟨xe_cw_207, List.forall_mem_cons.mpr ⟨xe_cw_208, List.forall_mem_cons.mpr ⟨xe_cw_209, List.forall_mem_cons.mpr ⟨xe_cw_210, List.forall_mem_cons.mpr ⟨xe_cw_211, List.forall_mem_cons.mpr ⟨xe_cw_212, List.forall_mem_cons.mpr ⟨xe_cw_213, List.forall_mem_cons.mpr ⟨xe_cw_214, List.forall_mem_cons.mpr ⟨xe_cw_215, List.forall_mem_cons.mpr ⟨xe_cw_216, List.forall_mem_cons.mpr ⟨xe_cw_217, List.forall_mem_cons.mpr ⟨xe_cw_218, fun _ h => absurd h List.not_mem_nil⟩⟩⟩⟩⟩⟩⟩⟩⟩⟩⟩⟩⟩⟩⟩⟩⟩⟩⟩
set_option maxRecDepth 100000 in
theorem xe_mLlen : xe_mL.length = 220 := rfl
def xe_mLs : List xe_M := xe_mL0 ++ (xe_mL1 ++ (xe_mL2 ++ (xe_mL3 ++ (xe_mL4 ++ (xe_mL5)))))
theorem xe_cws : ∀ m ∈ xe_mLs, Cond.code m.2.1 m.2.2.1 m.2.2.2.1 m.2.2.2.2.1 ∈ xe_tbl := List.forall_mem_append.mpr ⟨xe_cws_0, List.forall_mem_append.mpr ⟨xe_cws_1, List.forall_mem_append.mpr ⟨xe_cws_2, List.forall_mem_append.mpr ⟨xe_cws_3, List.forall_mem_append.mpr ⟨xe_cws_4, xe_cws_5⟩⟩⟩⟩⟩
set_option maxRecDepth 100000 in
theorem xe_mL_split : xe_mL = xe_mLs ++ xe_mL6 := rfl
set_option maxRecDepth 100000 in
theorem xe_mLs_len : xe_mLs.length = 219 := rfl
theorem xe_code_in {y : Nat} (hy : y < 219) : Cond.code (xe_nm y) (xe_by y) (xe_ml y) (xe_rt y) ∈ xe_tbl := by
  have h1 : xe_m y ∈ xe_mLs := by
    have h2 : xe_mLs[y]? = some (xe_m y) := by
      unfold xe_m
      rw [xe_mL_split, List.getD_eq_getElem?_getD, List.getElem?_append_left (by rw [xe_mLs_len]; exact hy)]
      rw [List.getElem?_eq_getElem (by rw [xe_mLs_len]; exact hy)]
      rfl
    exact List.mem_of_getElem? h2
  exact xe_cws _ h1
/-- each method: a plain class name, its parameters -/
def xe_okM (y : Nat) : Bool := plainName (xe_nm y).cls && decide ((xe_nm y).cls = xe_on (xe_o y)) && decide ((xe_nm y).cls ≠ "java/lang/invoke/MethodHandle") && decide ((xe_nm y).cls ≠ "java/lang/invoke/VarHandle") && decide ((parseMethodDescriptor (xe_nm y).desc).map (fun d => d.parameters.length) = some (xe_np y)) && decide (xe_ml y ≤ 40)
theorem xe_okM_0 : (List.range 40).all (fun y => xe_okM (0 + y)) = true := by decide +kernel
theorem xe_okM_1 : (List.range 40).all (fun y => xe_okM (40 + y)) = true := by decide +kernel
theorem xe_okM_2 : (List.range 40).all (fun y => xe_okM (80 + y)) = true := by decide +kernel
theorem xe_okM_3 : (List.range 40).all (fun y => xe_okM (120 + y)) = true := by decide +kernel
theorem xe_okM_4 : (List.range 40).all (fun y => xe_okM (160 + y)) = true := by decide +kernel
theorem xe_okM_5 : (List.range 20).all (fun y => xe_okM (200 + y)) = true := by decide +kernel
theorem xe_okM_all {y : Nat} (hy : y < 220) : xe_okM y = true := by
  rcases (show (0 ≤ y ∧ y < 40) ∨ (40 ≤ y ∧ y < 80) ∨ (80 ≤ y ∧ y < 120) ∨ (120 ≤ y ∧ y < 160) ∨ (160 ≤ y ∧ y < 200) ∨ (200 ≤ y ∧ y < 220) by omega) with ⟨h1, h2⟩ | ⟨h1, h2⟩ | ⟨h1, h2⟩ | ⟨h1, h2⟩ | ⟨h1, h2⟩ | ⟨h1, h2⟩
  · have h := List.all_eq_true.mp xe_okM_0 (y - 0) (List.mem_range.mpr (by omega)); rw [show 0 + (y - 0) = y by omega] at h; exact h
  · have h := List.all_eq_true.mp xe_okM_1 (y - 40) (List.mem_range.mpr (by omega)); rw [show 40 + (y - 40) = y by omega] at h; exact h
  · have h := List.all_eq_true.mp xe_okM_2 (y - 80) (List.mem_range.mpr (by omega)); rw [show 80 + (y - 80) = y by omega] at h; exact h
  · have h := List.all_eq_true.mp xe_okM_3 (y - 120) (List.mem_range.mpr (by omega)); rw [show 120 + (y - 120) = y by omega] at h; exact h
  · have h := List.all_eq_true.mp xe_okM_4 (y - 160) (List.mem_range.mpr (by omega)); rw [show 160 + (y - 160) = y by omega] at h; exact h
  · have h := List.all_eq_true.mp xe_okM_5 (y - 200) (List.mem_range.mpr (by omega)); rw [show 200 + (y - 200) = y by omega] at h; exact h
def xe_fLp : List ((Nat × Nat × Nat × Nat) × Nat) := [((0, 11, 0, 1), 278), ((0, 15, 0, 2), 279), ((0, 18, 0, 0), 277), ((0, 22, 0, 5), 282), ((0, 32, 0, 3), 280), ((0, 35, 0, 4), 281), ((0, 38, 3, 10), 150), ((0, 43, 3, 6), 135), ((0, 56, 3, 1), 118), ((0, 77, 3, 11), 156), ((0, 80, 0, 6), 283), ((1, 11, 1, 0), 355), ((1, 15, 1, 1), 356), ((1, 18, 1, 2), 357), ((2, 11, 2, 0), 192), ((2, 15, 2, 1), 193), ((2, 19, 2, 4), 198), ((2, 28, 2, 5), 199), ((2, 31, 2, 2), 195), ((2, 34, 2, 9), 203), ((2, 37, 2, 10), 204), ((2, 40, 2, 11), 205), ((2, 46, 2, 6), 200), ((2, 53, 3, 0), 114), ((2, 56, 3, 1), 119), ((2, 63, 2, 3), 197), ((2, 74, 2, 7), 201), ((2, 77, 3, 2), 123), ((2, 90, 2, 8), 202), ((2, 106, 3, 9), 148), ((2, 109, 3, 6), 138), ((2, 115, 3, 4), 131), ((2, 118, 3, 3), 127), ((2, 121, 3, 7), 141), ((2, 124, 3, 8), 144), ((2, 137, 3, 10), 153), ((2, 140, 3, 11), 158), ((3, 9, 3, 7), 139), ((3, 15, 3, 8), 142), ((3, 18, 3, 9), 145), ((3, 21, 3, 10), 149), ((3, 24, 3, 11), 154), ((3, 30, 3, 0), 113), ((3, 34, 3, 1), 116), ((3, 37, 3, 2), 122), ((3, 40, 3, 3), 125), ((3, 43, 3, 4), 128), ((3, 46, 3, 5), 132), ((3, 49, 3, 6), 134), ((4, 9, 4, 2), 309), ((4, 15, 4, 3), 311), ((4, 18, 4, 4), 312), ((4, 21, 4, 5), 313), ((4, 25, 4, 6), 314), ((4, 28, 4, 7), 315), ((4, 31, 4, 8), 316), ((4, 34, 4, 0), 305), ((4, 38, 3, 1), 117), ((4, 43, 4, 9), 317), ((4, 44, 3, 4), 129), ((4, 47, 4, 10), 318), ((4, 48, 4, 11), 319), ((4, 52, 4, 1), 307), ((4, 56, 4, 12), 320), ((5, 11, 5, 0), 239), ((5, 15, 5, 1), 240), ((5, 18, 5, 3), 242), ((5, 22, 5, 4), 243), ((5, 26, 5, 5), 244), ((5, 30, 3, 11), 155), ((5, 35, 5, 6), 245), ((5, 39, 5, 7), 246), ((5, 42, 3, 10), 151), ((5, 49, 5, 8), 247), ((5, 52, 5, 9), 248), ((5, 60, 5, 2), 241), ((5, 71, 3, 1), 120), ((5, 74, 3, 9), 146), ((5, 87, 3, 6), 136), ((6, 10, 6, 0), 365), ((6, 16, 6, 1), 366), ((6, 19, 6, 2), 367), ((6, 23, 6, 3), 368), ((6, 30, 6, 4), 369), ((6, 37, 6, 5), 370), ((6, 44, 6, 6), 371), ((6, 51, 6, 7), 372), ((6, 58, 6, 8), 373), ((6, 62, 6, 9), 374), ((6, 82, 4, 0), 306), ((6, 85, 2, 2), 196), ((6, 88, 3, 0), 115), ((6, 91, 3, 1), 121), ((6, 94, 3, 2), 124), ((6, 97, 3, 3), 126), ((6, 100, 3, 4), 130), ((6, 103, 3, 5), 133), ((6, 110, 3, 7), 140), ((6, 114, 3, 8), 143), ((6, 117, 3, 9), 147), ((6, 123, 3, 6), 137), ((6, 133, 3, 10), 152), ((6, 136, 3, 11), 157), ((6, 206, 4, 1), 308), ((6, 212, 4, 2), 310), ((6, 247, 2, 1), 194), ((7, 7, 7, 0), 959), ((7, 13, 7, 1), 960), ((7, 17, 7, 2), 961), ((7, 20, 7, 9), 968), ((7, 23, 7, 10), 969), ((7, 26, 7, 11), 970), ((7, 29, 7, 20), 979), ((7, 32, 7, 21), 980), ((7, 35, 7, 22), 981), ((7, 39, 7, 23), 982), ((7, 42, 7, 24), 983), ((7, 45, 7, 26), 985), ((7, 48, 7, 27), 986), ((7, 51, 7, 28), 987), ((7, 54, 7, 29), 988), ((7, 57, 7, 30), 989), ((7, 60, 7, 31), 990), ((7, 63, 7, 33), 992), ((7, 66, 7, 34), 993), ((7, 69, 7, 35), 994), ((7, 72, 7, 36), 995), ((7, 76, 7, 37), 996), ((7, 79, 7, 38), 997), ((7, 82, 7, 39), 998), ((7, 85, 7, 12), 971), ((7, 92, 7, 14), 973), ((7, 95, 7, 17), 976), ((7, 98, 7, 15), 974), ((7, 101, 7, 18), 977), ((7, 104, 7, 16), 975), ((7, 111, 7, 19), 978), ((7, 133, 7, 5), 964), ((7, 136, 7, 6), 965), ((7, 142, 7, 4), 963), ((7, 145, 7, 3), 962), ((7, 160, 7, 8), 967), ((7, 166, 7, 7), 966), ((7, 175, 7, 13), 972), ((7, 178, 7, 32), 991), ((7, 229, 7, 25), 984), ((7, 326, 7, 40), 999), ((9, 9, 13, 0), 1427), ((9, 15, 13, 1), 1428)]
set_option maxRecDepth 100000 in
theorem xe_fLp_ok : xe_fLp.map (fun e => e.1) = xe_fL := rfl
def xe_okF (e : (Nat × Nat × Nat × Nat) × Nat) : Bool := if e.1.2.2.1 < 8 then decide (e.1.2.2.2 < xe_nf e.1.2.2.1) && xe_is e.2 (.fieldLink (xe_on e.1.1) e.1.2.1 (xe_tb e.1.2.2.1 e.1.2.2.2).1 (xe_tb e.1.2.2.1 e.1.2.2.2).2.1 (xe_tb e.1.2.2.1 e.1.2.2.2).2.2.1) else
  if e.1.2.2.2 = 0 then xe_is e.2 (.fieldLink (xe_on e.1.1) e.1.2.1 "java/lang/String" "value" "[B") else xe_is e.2 (.fieldLink (xe_on e.1.1) e.1.2.1 "java/lang/String" "coder" "B")
theorem xe_fLp_all : xe_fLp.all xe_okF = true := by decide +kernel
def xe_cLp : List ((Nat × Nat × Nat × Nat) × List Nat) := [((0, 3, 4, 0), [276]), ((0, 26, 7, 0), [746]), ((0, 46, 0, 2), [747, 749, 16, 82]), ((0, 50, 5, 0), [751]), ((0, 59, 0, 49), [752, 587, 588, 78]), ((0, 63, 0, 51), [753, 633, 634, 78]), ((0, 66, 1, 46), [754, 645, 78]), ((0, 70, 1, 45), [755, 529, 78]), ((0, 74, 0, 50), [756, 641, 642, 78]), ((0, 82, 0, 4), [768, 770, 17, 82]), ((0, 86, 0, 5), [772, 774, 18, 82]), ((0, 90, 1, 9), [795, 796, 82]), ((0, 94, 0, 7), [799, 801, 19, 82]), ((0, 98, 1, 10), [808, 809, 82]), ((0, 102, 0, 8), [803, 805, 20, 82]), ((0, 105, 0, 48), [807, 591, 592, 78]), ((1, 3, 4, 0), [353]), ((1, 21, 1, 215), [354, 111, 79]), ((1, 27, 1, 216), [904, 905, 79]), ((1, 30, 0, 16), [915, 916, 917, 84]), ((2, 3, 4, 0), [191]), ((2, 23, 0, 38), [420, 107, 108, 78]), ((2, 43, 0, 30), [421, 423, 0, 80]), ((2, 49, 0, 24), [438, 440, 2, 80]), ((2, 59, 0, 29), [446, 448, 4, 80]), ((2, 66, 0, 26), [442, 444, 3, 80]), ((2, 70, 0, 34), [450, 452, 5, 80]), ((2, 87, 0, 25), [520, 522, 7, 80]), ((2, 93, 0, 27), [524, 526, 8, 80]), ((2, 102, 0, 28), [535, 537, 9, 80]), ((2, 112, 1, 45), [528, 529, 78]), ((2, 127, 6, 0), [539]), ((2, 133, 1, 44), [542, 543, 78]), ((2, 143, 1, 32), [425, 426, 80]), ((2, 147, 1, 33), [428, 429, 80]), ((2, 150, 0, 31), [431, 433, 1, 80]), ((2, 153, 7, 0), [435]), ((2, 156, 1, 36), [454, 455, 80]), ((2, 160, 0, 35), [464, 466, 6, 80]), ((2, 164, 0, 203), [468, 469, 470, 87]), ((2, 168, 0, 204), [478, 479, 480, 87]), ((3, 3, 4, 0), [105]), ((3, 27, 0, 38), [106, 107, 108, 78]), ((3, 52, 1, 215), [110, 111, 79]), ((3, 58, 5, 0), [549]), ((3, 65, 0, 48), [590, 591, 592, 78]), ((3, 69, 1, 45), [594, 529, 78]), ((3, 72, 1, 47), [636, 637, 78]), ((3, 76, 1, 44), [639, 543, 78]), ((3, 79, 0, 49), [586, 587, 588, 78]), ((3, 83, 0, 54), [628, 630, 10, 78]), ((3, 87, 0, 51), [632, 633, 634, 78]), ((3, 91, 0, 50), [640, 641, 642, 78]), ((3, 94, 1, 46), [644, 645, 78]), ((3, 98, 0, 41), [737, 565, 566, 78]), ((4, 3, 4, 0), [304]), ((4, 59, 1, 215), [832, 111, 79]), ((4, 65, 0, 61), [833, 835, 21, 83]), ((4, 69, 0, 64), [837, 839, 22, 83]), ((4, 73, 0, 62), [861, 863, 27, 83]), ((4, 76, 1, 45), [855, 529, 78]), ((4, 80, 1, 47), [856, 637, 78]), ((4, 84, 0, 63), [857, 859, 26, 83]), ((4, 87, 1, 46), [854, 645, 78]), ((4, 91, 0, 65), [841, 843, 23, 83]), ((4, 94, 7, 0), [845]), ((4, 100, 0, 67), [846, 848, 24, 83]), ((4, 103, 0, 68), [850, 852, 25, 83]), ((4, 107, 6, 0), [881]), ((5, 5, 4, 0), [238]), ((5, 45, 0, 75), [660, 662, 11, 81]), ((5, 55, 0, 81), [710, 712, 15, 81]), ((5, 63, 1, 80), [699, 700, 81]), ((5, 67, 0, 71), [784, 657, 658, 81]), ((5, 77, 0, 41), [785, 565, 566, 78]), ((5, 81, 1, 214), [664, 665, 79]), ((5, 90, 0, 78), [670, 672, 12, 81]), ((5, 94, 0, 77), [689, 691, 13, 81]), ((5, 99, 0, 76), [694, 696, 14, 81]), ((5, 103, 0, 49), [702, 587, 588, 78]), ((5, 107, 0, 51), [703, 633, 634, 78]), ((5, 111, 1, 46), [704, 645, 78]), ((5, 114, 0, 50), [705, 641, 642, 78]), ((5, 117, 1, 79), [674, 675, 81]), ((5, 120, 1, 217), [677, 678, 79]), ((6, 1, 4, 0), [97]), ((6, 9, 2, 37), [102, 103, 78]), ((6, 29, 3, 20), [188, 189, 80]), ((6, 36, 3, 70), [235, 236, 81]), ((6, 43, 3, 0), [273, 274, 82]), ((6, 50, 3, 58), [301, 302, 83]), ((6, 57, 2, 11), [350, 351, 84]), ((6, 66, 0, 21), [400, 401, 402, 80]), ((6, 70, 0, 22), [408, 409, 410, 80]), ((6, 74, 0, 23), [416, 417, 418, 80]), ((6, 78, 0, 39), [545, 546, 547, 78]), ((6, 106, 0, 41), [564, 565, 566, 78]), ((6, 120, 1, 116), [568, 569, 77]), ((6, 126, 1, 43), [571, 572, 78]), ((6, 130, 0, 42), [578, 579, 580, 78]), ((6, 139, 0, 52), [582, 583, 584, 78]), ((6, 142, 1, 44), [611, 543, 78]), ((6, 146, 0, 40), [616, 617, 618, 78]), ((6, 149, 0, 53), [624, 625, 626, 78]), ((6, 152, 1, 117), [652, 653, 77]), ((6, 156, 0, 71), [656, 657, 658, 81]), ((6, 160, 0, 72), [706, 707, 708, 81]), ((6, 163, 0, 73), [718, 719, 720, 81]), ((6, 167, 7, 0), [727]), ((6, 172, 6, 0), [728]), ((6, 175, 0, 55), [733, 734, 735, 78]), ((6, 178, 0, 1), [742, 743, 744, 82]), ((6, 182, 1, 118), [761, 762, 77]), ((6, 185, 0, 3), [764, 765, 766, 82]), ((6, 188, 0, 74), [780, 781, 782, 81]), ((6, 194, 0, 6), [791, 792, 793, 82]), ((6, 198, 0, 59), [815, 816, 817, 83]), ((6, 202, 0, 60), [827, 828, 829, 83]), ((6, 209, 0, 66), [865, 866, 867, 83]), ((6, 215, 0, 69), [877, 878, 879, 83]), ((6, 218, 1, 12), [894, 895, 84]), ((6, 221, 1, 13), [897, 898, 84]), ((6, 224, 0, 14), [900, 901, 902, 84]), ((6, 228, 0, 15), [911, 912, 913, 84]), ((6, 231, 0, 17), [919, 920, 921, 84]), ((6, 234, 0, 16), [927, 916, 917, 84]), ((6, 237, 0, 18), [928, 929, 930, 84]), ((6, 240, 0, 56), [940, 941, 942, 78]), ((6, 244, 0, 57), [944, 945, 946, 78]), ((6, 250, 0, 19), [948, 949, 950, 84]), ((7, 1, 4, 0), [957]), ((7, 88, 1, 120), [1091, 1092, 85]), ((7, 107, 0, 123), [1102, 1104, 29, 85]), ((7, 122, 0, 124), [1110, 1112, 30, 85]), ((7, 126, 0, 126), [1098, 1100, 28, 85]), ((7, 129, 0, 127), [1131, 1133, 35, 85]), ((7, 139, 0, 128), [1127, 1129, 34, 85]), ((7, 148, 0, 125), [1118, 1120, 32, 85]), ((7, 154, 0, 130), [1123, 1125, 33, 85]), ((7, 157, 0, 131), [1135, 1137, 36, 85]), ((7, 163, 0, 129), [1139, 1141, 37, 85]), ((7, 169, 0, 132), [1143, 1145, 38, 85]), ((7, 172, 0, 133), [1114, 1116, 31, 85]), ((7, 181, 0, 136), [1155, 1157, 39, 85]), ((7, 184, 0, 138), [1176, 1178, 42, 85]), ((7, 188, 0, 142), [1159, 1161, 40, 85]), ((7, 191, 0, 137), [1167, 1169, 41, 85]), ((7, 196, 0, 149), [1234, 1236, 50, 85]), ((7, 199, 0, 148), [1189, 1191, 45, 85]), ((7, 203, 0, 150), [1230, 1232, 49, 85]), ((7, 209, 0, 145), [1181, 1183, 43, 85]), ((7, 212, 0, 140), [1185, 1187, 44, 85]), ((7, 215, 0, 141), [1193, 1195, 46, 85]), ((7, 220, 0, 152), [1226, 1228, 48, 85]), ((7, 223, 0, 151), [1238, 1240, 51, 85]), ((7, 226, 0, 159), [1221, 1223, 47, 85]), ((7, 232, 0, 147), [1250, 1252, 53, 85]), ((7, 235, 0, 161), [1254, 1256, 54, 85]), ((7, 238, 0, 146), [1258, 1260, 55, 85]), ((7, 241, 0, 162), [1262, 1264, 56, 85]), ((7, 245, 0, 163), [1270, 1272, 58, 85]), ((7, 248, 0, 164), [1246, 1248, 52, 85]), ((7, 251, 0, 165), [1266, 1268, 57, 85]), ((7, 254, 0, 139), [1282, 1284, 59, 85]), ((7, 257, 0, 171), [1294, 1296, 60, 85]), ((7, 261, 0, 176), [1318, 1320, 65, 85]), ((7, 264, 0, 173), [1322, 1324, 66, 85]), ((7, 267, 0, 172), [1306, 1308, 62, 85]), ((7, 270, 0, 174), [1310, 1312, 63, 85]), ((7, 274, 0, 175), [1314, 1316, 64, 85]), ((7, 278, 0, 177), [1302, 1304, 61, 85]), ((7, 282, 0, 181), [1345, 1347, 69, 85]), ((7, 285, 0, 182), [1341, 1343, 68, 85]), ((7, 294, 0, 183), [1337, 1339, 67, 85]), ((7, 298, 1, 180), [1349, 1350, 85]), ((7, 302, 0, 189), [1377, 1379, 73, 85]), ((7, 307, 0, 188), [1365, 1367, 70, 85]), ((7, 310, 0, 187), [1369, 1371, 71, 85]), ((7, 313, 0, 190), [1373, 1375, 72, 85]), ((7, 317, 0, 193), [1389, 1391, 74, 85]), ((7, 320, 0, 195), [1397, 1399, 75, 85]), ((9, 335, 0, 205), [472, 473, 474, 87]), ((9, 492, 0, 206), [482, 483, 484, 87]), ((9, 495, 1, 208), [486, 487, 88]), ((9, 498, 1, 211), [497, 498, 90]), ((9, 1059, 1, 218), [494, 495, 89]), ((10, 9, 1, 207), [489, 490, 87]), ((11, 48, 1, 210), [503, 504, 90]), ((11, 67, 1, 212), [500, 501, 90]), ((11, 71, 1, 209), [507, 508, 90]), ((11, 414, 1, 207), [506, 490, 87]), ((13, 13, 1, 213), [667, 668, 79]), ((13, 304, 7, 0), [687]), ((13, 150, 5, 0), [688]), ((8, 9, 2, 82), [94, 95, 77]), ((8, 12, 2, 119), [954, 955, 85]), ((8, 15, 0, 83), [396, 397, 398, 77]), ((8, 19, 0, 121), [1083, 1084, 1085, 85]), ((8, 20, 0, 84), [404, 405, 406, 77]), ((8, 24, 0, 122), [1087, 1088, 1089, 85]), ((8, 25, 0, 85), [412, 413, 414, 77]), ((8, 29, 0, 134), [1094, 1095, 1096, 85]), ((8, 30, 0, 86), [552, 553, 554, 77]), ((8, 33, 0, 135), [1147, 1148, 1149, 85]), ((8, 34, 0, 87), [556, 557, 558, 77]), ((8, 37, 0, 143), [1151, 1152, 1153, 85]), ((8, 38, 0, 88), [560, 561, 562, 77]), ((8, 42, 0, 144), [1163, 1164, 1165, 85]), ((8, 43, 0, 89), [574, 575, 576, 77]), ((8, 46, 0, 153), [1172, 1173, 1174, 85]), ((8, 47, 0, 90), [595, 596, 597, 77]), ((8, 50, 0, 154), [1197, 1198, 1199, 85]), ((8, 51, 0, 91), [599, 600, 601, 77]), ((8, 54, 0, 155), [1201, 1202, 1203, 85]), ((8, 55, 0, 92), [603, 604, 605, 77]), ((8, 58, 0, 156), [1205, 1206, 1207, 85]), ((8, 59, 0, 93), [607, 608, 609, 77]), ((8, 62, 0, 157), [1209, 1210, 1211, 85]), ((8, 63, 0, 94), [612, 613, 614, 77]), ((8, 67, 0, 158), [1213, 1214, 1215, 85]), ((8, 68, 0, 95), [620, 621, 622, 77]), ((8, 71, 0, 160), [1217, 1218, 1219, 85]), ((8, 72, 0, 96), [648, 649, 650, 77]), ((8, 75, 0, 166), [1242, 1243, 1244, 85]), ((8, 76, 0, 97), [714, 715, 716, 77]), ((8, 79, 0, 167), [1274, 1275, 1276, 85]), ((8, 80, 0, 98), [723, 724, 725, 77]), ((8, 83, 0, 168), [1278, 1279, 1280, 85]), ((8, 84, 0, 99), [729, 730, 731, 77]), ((8, 87, 0, 169), [1286, 1287, 1288, 85]), ((8, 88, 0, 100), [738, 739, 740, 77]), ((8, 92, 0, 170), [1290, 1291, 1292, 85]), ((8, 93, 0, 101), [757, 758, 759, 77]), ((8, 96, 0, 178), [1298, 1299, 1300, 85]), ((8, 97, 0, 102), [776, 777, 778, 77]), ((8, 100, 0, 179), [1326, 1327, 1328, 85]), ((8, 101, 0, 103), [786, 787, 788, 77]), ((8, 105, 0, 184), [1330, 1331, 1332, 85]), ((8, 106, 0, 104), [811, 812, 813, 77]), ((8, 110, 0, 185), [1352, 1353, 1354, 85]), ((8, 111, 0, 105), [819, 820, 821, 77]), ((8, 114, 0, 186), [1356, 1357, 1358, 85]), ((8, 115, 0, 106), [823, 824, 825, 77]), ((8, 118, 0, 191), [1360, 1361, 1362, 85]), ((8, 119, 0, 107), [869, 870, 871, 77]), ((8, 122, 0, 192), [1381, 1382, 1383, 85]), ((8, 123, 0, 108), [873, 874, 875, 77]), ((8, 126, 0, 194), [1385, 1386, 1387, 85]), ((8, 127, 0, 109), [882, 883, 884, 77]), ((8, 130, 0, 196), [1393, 1394, 1395, 85]), ((8, 131, 0, 110), [886, 887, 888, 77]), ((8, 134, 0, 197), [1401, 1402, 1403, 85]), ((8, 135, 0, 111), [890, 891, 892, 77]), ((8, 138, 0, 198), [1405, 1406, 1407, 85]), ((8, 139, 0, 112), [907, 908, 909, 77]), ((8, 142, 0, 199), [1409, 1410, 1411, 85]), ((8, 143, 0, 113), [923, 924, 925, 77]), ((8, 146, 0, 200), [1413, 1414, 1415, 85]), ((8, 147, 0, 114), [932, 933, 934, 77]), ((8, 150, 0, 201), [1418, 1419, 1420, 85]), ((8, 151, 0, 115), [936, 937, 938, 77]), ((8, 154, 0, 202), [1422, 1423, 1424, 85])]
set_option maxRecDepth 100000 in
theorem xe_cLp_ok : xe_cLp.map (fun e => e.1) = xe_cL := rfl
def xe_okC (e : (Nat × Nat × Nat × Nat) × List Nat) : Bool := match e.1.2.2.1 with
  | 0 => decide (e.1.2.2.2 < 219) && xe_is (e.2.getD 0 0) (.methodLink (xe_on e.1.1) e.1.2.1 (xe_nm e.1.2.2.2)) && xe_is (e.2.getD 1 0) (.instanceMethod (xe_nm e.1.2.2.2)) && xe_is (e.2.getD 2 0) (.selects (xe_nm e.1.2.2.2).cls (xe_nm e.1.2.2.2) (xe_nm e.1.2.2.2)) && xe_is (e.2.getD 3 0) (.initialized (xe_nm e.1.2.2.2).cls)
  | 1 => decide (e.1.2.2.2 < 219) && xe_is (e.2.getD 0 0) (.methodLink (xe_on e.1.1) e.1.2.1 (xe_nm e.1.2.2.2)) && xe_is (e.2.getD 1 0) (.static (xe_nm e.1.2.2.2)) && xe_is (e.2.getD 2 0) (.initialized (xe_nm e.1.2.2.2).cls)
  | 2 => decide (e.1.2.2.2 < 219) && xe_is (e.2.getD 0 0) (.methodLink (xe_on e.1.1) e.1.2.1 (xe_nm e.1.2.2.2)) && xe_is (e.2.getD 1 0) (.instanceMethod (xe_nm e.1.2.2.2)) && xe_is (e.2.getD 2 0) (.initialized (xe_nm e.1.2.2.2).cls) && decide ((xe_nm e.1.2.2.2).name = "<init>") && decide (xe_rt e.1.2.2.2 = none)
  | 3 => decide (e.1.2.2.2 < 219) && decide (lw_tbl[e.2.getD 0 0]? = some (.methodLinkNest (xe_on e.1.1) e.1.2.1 (xe_nm e.1.2.2.2) "CrossShuts")) && xe_is (e.2.getD 1 0) (.instanceMethod (xe_nm e.1.2.2.2)) && xe_is (e.2.getD 2 0) (.initialized (xe_nm e.1.2.2.2).cls) && decide ((xe_nm e.1.2.2.2).name = "<init>") && decide (xe_rt e.1.2.2.2 = none)
  | 4 => xe_is (e.2.getD 0 0) (.methodLink (xe_on e.1.1) e.1.2.1 objectInit)
  | 5 => xe_is (e.2.getD 0 0) (.methodLink (xe_on e.1.1) e.1.2.1 arraycopyName)
  | 6 => xe_is (e.2.getD 0 0) (.methodLink (xe_on e.1.1) e.1.2.1 Lib.Math.max.name)
  | 7 => xe_is (e.2.getD 0 0) (.methodLink (xe_on e.1.1) e.1.2.1 Lib.Math.min.name)
  | _ => false
theorem xe_cLp_0 : ((xe_cLp.drop 0).take 66).all xe_okC = true := by decide +kernel
theorem xe_cLp_1 : ((xe_cLp.drop 66).take 66).all xe_okC = true := by decide +kernel
theorem xe_cLp_2 : ((xe_cLp.drop 132).take 66).all xe_okC = true := by decide +kernel
theorem xe_cLp_3 : ((xe_cLp.drop 198).take 64).all xe_okC = true := by decide +kernel
set_option maxRecDepth 100000 in
theorem xe_cLp_all : ∀ e ∈ xe_cLp, xe_okC e = true := by
  intro e he
  have h : e ∈ (xe_cLp.drop 0).take 66 ++ ((xe_cLp.drop 66).take 66 ++ ((xe_cLp.drop 132).take 66 ++ ((xe_cLp.drop 198).take 64))) := he
  simp only [List.mem_append] at h
  rcases h with h | h | h | h
  · exact List.all_eq_true.mp xe_cLp_0 e h
  · exact List.all_eq_true.mp xe_cLp_1 e h
  · exact List.all_eq_true.mp xe_cLp_2 e h
  · exact List.all_eq_true.mp xe_cLp_3 e h
theorem xe_w_objInit : Cond.instanceMethod objectInit ∈ xe_tbl := xe_is_in (i := 98) (by decide +kernel)
theorem xe_w_objCode : Cond.code objectInit ⟨#[0xb1]⟩ 1 none ∈ xe_tbl := xe_is_in (i := 99) (by decide +kernel)
theorem xe_w_acN : Cond.native arraycopyName ∈ xe_tbl := xe_is_in (i := 551) (by decide +kernel)
theorem xe_w_acS : Cond.static arraycopyName ∈ xe_tbl := xe_is_in (i := 550) (by decide +kernel)
theorem xe_w_sys : Cond.initialized "java/lang/System" ∈ xe_tbl := xe_is_in (i := 91) (by decide +kernel)
theorem xe_w_maxS : Cond.static Lib.Math.max.name ∈ xe_tbl := xe_is_in (i := 540) (by decide +kernel)
theorem xe_w_maxC : Cond.code Lib.Math.max.name Lib.Math.max.code 2 (some .int) ∈ xe_tbl := xe_is_in (i := 541) (by decide +kernel)
theorem xe_w_minS : Cond.static Lib.Math.min.name ∈ xe_tbl := xe_is_in (i := 436) (by decide +kernel)
theorem xe_w_minC : Cond.code Lib.Math.min.name Lib.Math.min.code 2 (some .int) ∈ xe_tbl := xe_is_in (i := 437) (by decide +kernel)
theorem xe_w_math : Cond.initialized "java/lang/Math" ∈ xe_tbl := xe_is_in (i := 86) (by decide +kernel)
theorem xe_w_arrI : Cond.arrayClass .int ∈ xe_tbl := xe_is_in (i := 184) (by decide +kernel)
theorem xe_w_arrJ : Cond.arrayClass .long ∈ xe_tbl := xe_is_in (i := 270) (by decide +kernel)
theorem xe_w_arrB : Cond.arrayClass .byte ∈ xe_tbl := xe_is_in (i := 232) (by decide +kernel)
theorem xe_w_arrZ : Cond.arrayClass .boolean ∈ xe_tbl := xe_is_in (i := 231) (by decide +kernel)
def xe_kLp : List ((Nat × Nat × Nat) × List Nat) := [((6, 7, 3), [100, 101, 78]), ((6, 27, 2), [186, 187, 80]), ((6, 34, 5), [233, 234, 81]), ((6, 41, 0), [271, 272, 82]), ((6, 48, 4), [299, 300, 83]), ((6, 55, 1), [348, 349, 84]), ((8, 7, 6), [92, 93, 77]), ((8, 10, 7), [952, 953, 85])]
theorem xe_kLp_ok : xe_kLp.map (fun e => e.1) = xe_kL := rfl
def xe_okK (e : (Nat × Nat × Nat) × List Nat) : Bool := decide (e.1.2.2 < 8) && xe_is (e.2.getD 0 0) (.classLink (xe_on e.1.1) e.1.2.1 (xe_on e.1.2.2)) && xe_is (e.2.getD 1 0) (.instantiable (xe_on e.1.2.2) (xe_nf e.1.2.2)) && xe_is (e.2.getD 2 0) (.initialized (xe_on e.1.2.2))
theorem xe_kLp_all : xe_kLp.all xe_okK = true := by decide +kernel
theorem xe_aL_all : xe_aL.all (fun e => xe_is 100 (.classLink (xe_on e.1) e.2 "CrossShuts$Town")) = true := by decide +kernel
def xe_iLp : List ((Nat × Nat × Int32) × Nat) := [((3, 64, 37449), 647), ((4, 55, 117649), 831), ((5, 59, 1000000), 722), ((5, 98, 102400), 693), ((5, 102, 262143), 698), ((6, 155, 1000000), 655), ((7, 38, 102400), 958)]
theorem xe_iLp_ok : xe_iLp.map (fun e => e.1) = xe_iL := rfl
theorem xe_iLp_all : xe_iLp.all (fun e => xe_is e.2 (.constant (xe_on e.1.1) e.1.2.1 e.1.2.2)) = true := by decide +kernel
def xe_lLp : List ((Nat × Nat × Int64) × Nat) := [((0, 108, 60), 798), ((6, 192, -1), 790), ((7, 114, 97), 1106), ((7, 116, 122), 1107), ((7, 118, 48), 1108), ((7, 120, 57), 1109), ((7, 152, 6), 1122), ((7, 194, 3), 1171), ((7, 207, 2), 1180), ((7, 218, 511), 1225), ((7, 288, 60), 1336), ((7, 290, 5), 1334), ((7, 292, -1), 1335), ((7, 305, 10), 1364), ((7, 324, 20), 1417), ((8, 13, 4294967295), 1426)]
theorem xe_lLp_ok : xe_lLp.map (fun e => e.1) = xe_lL := rfl
theorem xe_lLp_all : xe_lLp.all (fun e => xe_is e.2 (.constantLong (xe_on e.1.1) e.1.2.1 e.1.2.2)) = true := by decide +kernel
/-- a static by its number: class, name, descriptor -/
def xe_sf (j : Nat) : String × String × String := if j = 1 then ("CrossShuts$Teller", "LEAST_FIRST", "[I") else if j = 2 then ("CrossShuts$Teller", "MOST_FIRST", "[I") else if j = 3 then ("CrossShuts$Teller", "LEAST_SECOND", "[I") else if j = 4 then ("CrossShuts$Teller", "MOST_SECOND", "[I") else if j = 19 then ("jdk/internal/util/Preconditions", "SIOOBE_FORMATTER", "Ljava/util/function/BiFunction;") else if j = 20 then ("java/lang/String", "COMPACT_STRINGS", "Z") else ("", "", "")
def xe_sLp : List ((Nat × Nat × Nat) × Nat) := [((2, 80, 1), 516), ((2, 84, 2), 518), ((2, 96, 3), 531), ((2, 99, 4), 533), ((9, 38, 20), 476), ((9, 1053, 19), 492)]
theorem xe_sLp_ok : xe_sLp.map (fun e => e.1) = xe_sL := rfl
theorem xe_sLp_all : xe_sLp.all (fun e => (decide (e.1.2.2 = 19) || decide (e.1.2.2 = 20) || (decide (1 ≤ e.1.2.2) && decide (e.1.2.2 < 5))) && xe_is e.2 (.fieldLink (xe_on e.1.1) e.1.2.1 (xe_sf e.1.2.2).1 (xe_sf e.1.2.2).2.1 (xe_sf e.1.2.2).2.2)) = true := by decide +kernel
def xe_sx : List Nat := [172, 173, 174, 175, 177, 179, 181]
theorem xe_tL_all : xe_tL.all (fun e => decide (e.1 = 2) && decide (e.2.2 < 7) && decide (e.2.1 = xe_sx.getD e.2.2 0)) = true := by decide +kernel
def xe_pu0 : List Nat := [284, 286, 288, 290, 292, 294, 296]
theorem xe_uw0 : (List.range 7).all (fun k => xe_is (xe_pu0.getD k 0) (u_lay RX0 TX0 k)) = true := by decide +kernel
def xe_pu1 : List Nat := [358, 360, 362]
theorem xe_uw1 : (List.range 3).all (fun k => xe_is (xe_pu1.getD k 0) (u_lay RX1 TX1 k)) = true := by decide +kernel
def xe_pu2 : List Nat := [206, 208, 210, 212, 214, 216, 218, 220, 222, 224, 226, 228]
theorem xe_uw2 : (List.range 12).all (fun k => xe_is (xe_pu2.getD k 0) (u_lay RX2 TX2 k)) = true := by decide +kernel
def xe_pu3 : List Nat := [159, 161, 163, 165, 167, 169, 171, 173, 175, 177, 179, 181]
theorem xe_uw3 : (List.range 12).all (fun k => xe_is (xe_pu3.getD k 0) (u_lay RX3 TX3 k)) = true := by decide +kernel
def xe_pu4 : List Nat := [321, 323, 325, 327, 329, 331, 333, 335, 337, 339, 341, 343, 345]
theorem xe_uw4 : (List.range 13).all (fun k => xe_is (xe_pu4.getD k 0) (u_lay RX4 TX4 k)) = true := by decide +kernel
def xe_pu5 : List Nat := [249, 251, 253, 255, 257, 259, 261, 263, 265, 267]
theorem xe_uw5 : (List.range 10).all (fun k => xe_is (xe_pu5.getD k 0) (u_lay RX5 TX5 k)) = true := by decide +kernel
def xe_pu6 : List Nat := [375, 377, 379, 381, 383, 385, 387, 389, 391, 393]
theorem xe_uw6 : (List.range 10).all (fun k => xe_is (xe_pu6.getD k 0) (u_lay RX6 TX6 k)) = true := by decide +kernel
def xe_pu7 : List Nat := [1000, 1002, 1004, 1006, 1008, 1010, 1012, 1014, 1016, 1018, 1020, 1022, 1024, 1026, 1028, 1030, 1032, 1034, 1036, 1038, 1040, 1042, 1044, 1046, 1048, 1050, 1052, 1054, 1056, 1058, 1060, 1062, 1064, 1066, 1068, 1070, 1072, 1074, 1076, 1078, 1080]
theorem xe_uw7 : (List.range 41).all (fun k => xe_is (xe_pu7.getD k 0) (u_lay RX7 TX7 k)) = true := by decide +kernel
theorem xe_uws : ∀ ci, ci < 8 → ∀ w ∈ u_ws (xe_on ci) (xe_tb ci) (xe_nf ci), w ∈ xe_tbl := by
  intro ci hc w hw
  obtain ⟨k, hk, rfl⟩ := List.mem_map.mp hw
  have hk := List.mem_range.mp hk
  match ci, hc with
  | 0, _ => exact xe_is_in (List.all_eq_true.mp xe_uw0 k (List.mem_range.mpr hk))
  | 1, _ => exact xe_is_in (List.all_eq_true.mp xe_uw1 k (List.mem_range.mpr hk))
  | 2, _ => exact xe_is_in (List.all_eq_true.mp xe_uw2 k (List.mem_range.mpr hk))
  | 3, _ => exact xe_is_in (List.all_eq_true.mp xe_uw3 k (List.mem_range.mpr hk))
  | 4, _ => exact xe_is_in (List.all_eq_true.mp xe_uw4 k (List.mem_range.mpr hk))
  | 5, _ => exact xe_is_in (List.all_eq_true.mp xe_uw5 k (List.mem_range.mpr hk))
  | 6, _ => exact xe_is_in (List.all_eq_true.mp xe_uw6 k (List.mem_range.mpr hk))
  | 7, _ => exact xe_is_in (List.all_eq_true.mp xe_uw7 k (List.mem_range.mpr hk))
  | c + 8, h => omega
theorem xe_nms : ∀ ci, ci < 8 → ∀ a, a < xe_nf ci → ∀ b, b < xe_nf ci → a ≠ b → (xe_tb ci a).2.1 ≠ (xe_tb ci b).2.1 := by
  intro ci hc
  match ci, hc with
  | 0, _ => exact nmX0
  | 1, _ => exact nmX1
  | 2, _ => exact nmX2
  | 3, _ => exact nmX3
  | 4, _ => exact nmX4
  | 5, _ => exact nmX5
  | 6, _ => exact nmX6
  | 7, _ => exact nmX7
  | c + 8, h => omega
theorem xe_tyok : ∀ ci, ci < 8 → ∀ k, k < xe_nf ci → parseFieldDescriptor (xe_tb ci k).2.2.1 = some (xe_ty ci k) := by
  intro ci hc
  match ci, hc with
  | 0, _ => exact tyX0_ok
  | 1, _ => exact tyX1_ok
  | 2, _ => exact tyX2_ok
  | 3, _ => exact tyX3_ok
  | 4, _ => exact tyX4_ok
  | 5, _ => exact tyX5_ok
  | 6, _ => exact tyX6_ok
  | 7, _ => exact tyX7_ok
  | c + 8, h => omega
theorem xe_clat : ∀ ci, ci < 8 → xe_cl[ci]? = some (xe_on ci, xe_tb ci, xe_nf ci) := by
  intro ci hc
  match ci, hc with
  | 0, _ => rfl
  | 1, _ => rfl
  | 2, _ => rfl
  | 3, _ => rfl
  | 4, _ => rfl
  | 5, _ => rfl
  | 6, _ => rfl
  | 7, _ => rfl
  | c + 8, h => omega
theorem xe_tb1 : ∀ ci, ci < 8 → ∀ k, (xe_tb ci k).1 = xe_on ci := by
  intro ci hc k
  match ci, hc with
  | 0, _ => (show (TX0 k).1 = RX0; unfold TX0; split <;> rfl)
  | 1, _ => (show (TX1 k).1 = RX1; unfold TX1; split <;> rfl)
  | 2, _ => (show (TX2 k).1 = RX2; unfold TX2; split <;> rfl)
  | 3, _ => (show (TX3 k).1 = RX3; unfold TX3; split <;> rfl)
  | 4, _ => (show (TX4 k).1 = RX4; unfold TX4; split <;> rfl)
  | 5, _ => (show (TX5 k).1 = RX5; unfold TX5; split <;> rfl)
  | 6, _ => (show (TX6 k).1 = RX6; unfold TX6; split <;> rfl)
  | 7, _ => (show (TX7 k).1 = RX7; unfold TX7; split <;> rfl)
  | c + 8, h => omega
