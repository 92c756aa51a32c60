def RX0 : String := "CrossShuts$Plays"
def TX0 : u_T := fun k => match k with
  | 0 => ("CrossShuts$Plays", "town", "LCrossShuts$Town;", false)
  | 1 => ("CrossShuts$Plays", "row", "[I", true)
  | 2 => ("CrossShuts$Plays", "bestRow", "[I", true)
  | 3 => ("CrossShuts$Plays", "rowLength", "I", false)
  | 4 => ("CrossShuts$Plays", "fewest", "I", false)
  | 5 => ("CrossShuts$Plays", "guarded", "I", false)
  | _ => ("CrossShuts$Plays", "goal", "I", false)
def tyX0 : Nat → FieldType := fun k => match k with
  | 0 => .object "CrossShuts$Town"
  | 1 => .array .int
  | 2 => .array .int
  | 3 => .int
  | 4 => .int
  | 5 => .int
  | _ => .int
abbrev wsX00 : List Cond := u_ws RX0 TX0 7
theorem nmX0 : ∀ a, a < 7 → ∀ b, b < 7 → a ≠ b → (TX0 a).2.1 ≠ (TX0 b).2.1 := by decide +kernel
theorem tyX0_ok : ∀ k, k < 7 → parseFieldDescriptor (TX0 k).2.2.1 = some (tyX0 k) := by decide +kernel
def RX1 : String := "CrossShuts$Sheets"
def TX1 : u_T := fun k => match k with
  | 0 => ("CrossShuts$Sheets", "cells", "[I", true)
  | 1 => ("CrossShuts$Sheets", "lanes", "[I", true)
  | _ => ("CrossShuts$Sheets", "sizes", "[I", true)
def tyX1 : Nat → FieldType := fun k => match k with
  | 0 => .array .int
  | 1 => .array .int
  | _ => .array .int
abbrev wsX10 : List Cond := u_ws RX1 TX1 3
theorem nmX1 : ∀ a, a < 3 → ∀ b, b < 3 → a ≠ b → (TX1 a).2.1 ≠ (TX1 b).2.1 := by decide +kernel
theorem tyX1_ok : ∀ k, k < 3 → parseFieldDescriptor (TX1 k).2.2.1 = some (tyX1 k) := by decide +kernel
def RX2 : String := "CrossShuts$Teller"
def TX2 : u_T := fun k => match k with
  | 0 => ("CrossShuts$Teller", "bytes", "[B", true)
  | 1 => ("CrossShuts$Teller", "length", "I", false)
  | 2 => ("CrossShuts$Teller", "fault", "I", false)
  | 3 => ("CrossShuts$Teller", "faultPlace", "I", false)
  | 4 => ("CrossShuts$Teller", "town", "LCrossShuts$Town;", false)
  | 5 => ("CrossShuts$Teller", "at", "I", false)
  | 6 => ("CrossShuts$Teller", "kind", "I", false)
  | 7 => ("CrossShuts$Teller", "start", "I", false)
  | 8 => ("CrossShuts$Teller", "value", "I", false)
  | 9 => ("CrossShuts$Teller", "toldOnce", "I", false)
  | 10 => ("CrossShuts$Teller", "topPlace", "I", false)
  | _ => ("CrossShuts$Teller", "topBridge", "I", false)
def tyX2 : Nat → FieldType := fun k => match k with
  | 0 => .array .byte
  | 1 => .int
  | 2 => .int
  | 3 => .int
  | 4 => .object "CrossShuts$Town"
  | 5 => .int
  | 6 => .int
  | 7 => .int
  | 8 => .int
  | 9 => .int
  | 10 => .int
  | _ => .int
abbrev wsX20 : List Cond := u_ws RX2 TX2 12
theorem nmX2 : ∀ a, a < 12 → ∀ b, b < 12 → a ≠ b → (TX2 a).2.1 ≠ (TX2 b).2.1 := by decide +kernel
theorem tyX2_ok : ∀ k, k < 12 → parseFieldDescriptor (TX2 k).2.2.1 = some (tyX2 k) := by decide +kernel
def RX3 : String := "CrossShuts$Town"
def TX3 : u_T := fun k => match k with
  | 0 => ("CrossShuts$Town", "places", "I", false)
  | 1 => ("CrossShuts$Town", "bridges", "I", false)
  | 2 => ("CrossShuts$Town", "people", "I", false)
  | 3 => ("CrossShuts$Town", "law", "I", false)
  | 4 => ("CrossShuts$Town", "hold", "I", false)
  | 5 => ("CrossShuts$Town", "minutes", "I", false)
  | 6 => ("CrossShuts$Town", "rests", "I", false)
  | 7 => ("CrossShuts$Town", "first", "[I", true)
  | 8 => ("CrossShuts$Town", "second", "[I", true)
  | 9 => ("CrossShuts$Town", "hang", "[I", true)
  | 10 => ("CrossShuts$Town", "place", "[I", true)
  | _ => ("CrossShuts$Town", "goal", "[I", true)
def tyX3 : Nat → FieldType := fun k => match k with
  | 0 => .int
  | 1 => .int
  | 2 => .int
  | 3 => .int
  | 4 => .int
  | 5 => .int
  | 6 => .int
  | 7 => .array .int
  | 8 => .array .int
  | 9 => .array .int
  | 10 => .array .int
  | _ => .array .int
abbrev wsX30 : List Cond := u_ws RX3 TX3 12
theorem nmX3 : ∀ a, a < 12 → ∀ b, b < 12 → a ≠ b → (TX3 a).2.1 ≠ (TX3 b).2.1 := by decide +kernel
theorem tyX3_ok : ∀ k, k < 12 → parseFieldDescriptor (TX3 k).2.2.1 = some (tyX3 k) := by decide +kernel
def RX4 : String := "CrossShuts$Watch"
def TX4 : u_T := fun k => match k with
  | 0 => ("CrossShuts$Watch", "seen", "I", false)
  | 1 => ("CrossShuts$Watch", "fitting", "I", false)
  | 2 => ("CrossShuts$Watch", "possible", "[I", true)
  | 3 => ("CrossShuts$Watch", "crossed", "[I", true)
  | 4 => ("CrossShuts$Watch", "looked", "[I", true)
  | 5 => ("CrossShuts$Watch", "wasOpen", "[Z", true)
  | 6 => ("CrossShuts$Watch", "hang", "[I", true)
  | 7 => ("CrossShuts$Watch", "leftOpen", "[I", true)
  | 8 => ("CrossShuts$Watch", "leftShut", "[I", true)
  | 9 => ("CrossShuts$Watch", "bridges", "I", false)
  | 10 => ("CrossShuts$Watch", "hold", "I", false)
  | 11 => ("CrossShuts$Watch", "ahead", "Z", false)
  | _ => ("CrossShuts$Watch", "firstRig", "I", false)
def tyX4 : Nat → FieldType := fun k => match k with
  | 0 => .int
  | 1 => .int
  | 2 => .array .int
  | 3 => .array .int
  | 4 => .array .int
  | 5 => .array .boolean
  | 6 => .array .int
  | 7 => .array .int
  | 8 => .array .int
  | 9 => .int
  | 10 => .int
  | 11 => .boolean
  | _ => .int
abbrev wsX40 : List Cond := u_ws RX4 TX4 13
theorem nmX4 : ∀ a, a < 13 → ∀ b, b < 13 → a ≠ b → (TX4 a).2.1 ≠ (TX4 b).2.1 := by decide +kernel
theorem tyX4_ok : ∀ k, k < 13 → parseFieldDescriptor (TX4 k).2.2.1 = some (tyX4 k) := by decide +kernel
def RX5 : String := "CrossShuts$Ways"
def TX5 : u_T := fun k => match k with
  | 0 => ("CrossShuts$Ways", "known", "[J", true)
  | 1 => ("CrossShuts$Ways", "queue", "[J", false)
  | 2 => ("CrossShuts$Ways", "tail", "I", false)
  | 3 => ("CrossShuts$Ways", "between", "[I", true)
  | 4 => ("CrossShuts$Ways", "town", "LCrossShuts$Town;", false)
  | 5 => ("CrossShuts$Ways", "forTwo", "Z", false)
  | 6 => ("CrossShuts$Ways", "earlyGoal", "I", false)
  | 7 => ("CrossShuts$Ways", "lateGoal", "I", false)
  | 8 => ("CrossShuts$Ways", "found", "I", false)
  | _ => ("CrossShuts$Ways", "minutes", "I", false)
def tyX5 : Nat → FieldType := fun k => match k with
  | 0 => .array .long
  | 1 => .array .long
  | 2 => .int
  | 3 => .array .int
  | 4 => .object "CrossShuts$Town"
  | 5 => .boolean
  | 6 => .int
  | 7 => .int
  | 8 => .int
  | _ => .int
abbrev wsX50 : List Cond := u_ws RX5 TX5 10
theorem nmX5 : ∀ a, a < 10 → ∀ b, b < 10 → a ≠ b → (TX5 a).2.1 ≠ (TX5 b).2.1 := by decide +kernel
theorem tyX5_ok : ∀ k, k < 10 → parseFieldDescriptor (TX5 k).2.2.1 = some (tyX5 k) := by decide +kernel
def RX6 : String := "CrossShuts"
def TX6 : u_T := fun k => match k with
  | 0 => ("CrossShuts", "now", "LCrossShuts$Town;", true)
  | 1 => ("CrossShuts", "draft", "LCrossShuts$Town;", true)
  | 2 => ("CrossShuts", "images", "[LCrossShuts$Town;", true)
  | 3 => ("CrossShuts", "kept", "[Z", true)
  | 4 => ("CrossShuts", "teller", "LCrossShuts$Teller;", true)
  | 5 => ("CrossShuts", "ways", "LCrossShuts$Ways;", true)
  | 6 => ("CrossShuts", "plays", "LCrossShuts$Plays;", true)
  | 7 => ("CrossShuts", "watch", "LCrossShuts$Watch;", true)
  | 8 => ("CrossShuts", "sheets", "LCrossShuts$Sheets;", true)
  | _ => ("CrossShuts", "tear", "I", false)
def tyX6 : Nat → FieldType := fun k => match k with
  | 0 => .object "CrossShuts$Town"
  | 1 => .object "CrossShuts$Town"
  | 2 => .array (.object "CrossShuts$Town")
  | 3 => .array .boolean
  | 4 => .object "CrossShuts$Teller"
  | 5 => .object "CrossShuts$Ways"
  | 6 => .object "CrossShuts$Plays"
  | 7 => .object "CrossShuts$Watch"
  | 8 => .object "CrossShuts$Sheets"
  | _ => .int
abbrev wsX60 : List Cond := u_ws RX6 TX6 10
theorem nmX6 : ∀ a, a < 10 → ∀ b, b < 10 → a ≠ b → (TX6 a).2.1 ≠ (TX6 b).2.1 := by decide +kernel
theorem tyX6_ok : ∀ k, k < 10 → parseFieldDescriptor (TX6 k).2.2.1 = some (tyX6 k) := by decide +kernel
def RX7 : String := "CrossShutsModel"
def TX7 : u_T := fun k => match k with
  | 0 => ("CrossShutsModel", "state", "[I", true)
  | 1 => ("CrossShutsModel", "places", "I", false)
  | 2 => ("CrossShutsModel", "readPage", "[I", true)
  | 3 => ("CrossShutsModel", "readPlaces", "I", false)
  | 4 => ("CrossShutsModel", "toldOnce", "I", false)
  | 5 => ("CrossShutsModel", "highPlace", "I", false)
  | 6 => ("CrossShutsModel", "highBridge", "I", false)
  | 7 => ("CrossShutsModel", "shutOnes", "I", false)
  | 8 => ("CrossShutsModel", "hungOnes", "I", false)
  | 9 => ("CrossShutsModel", "readHangs", "[I", true)
  | 10 => ("CrossShutsModel", "readRests", "[I", true)
  | 11 => ("CrossShutsModel", "tape", "[I", true)
  | 12 => ("CrossShutsModel", "taped", "I", false)
  | 13 => ("CrossShutsModel", "fault", "I", false)
  | 14 => ("CrossShutsModel", "broken", "I", false)
  | 15 => ("CrossShutsModel", "brokenAt", "I", false)
  | 16 => ("CrossShutsModel", "spot", "I", false)
  | 17 => ("CrossShutsModel", "here", "I", false)
  | 18 => ("CrossShutsModel", "token", "I", false)
  | 19 => ("CrossShutsModel", "value", "I", false)
  | 20 => ("CrossShutsModel", "cuts", "[I", true)
  | 21 => ("CrossShutsModel", "letters", "[I", true)
  | 22 => ("CrossShutsModel", "rest", "[I", true)
  | 23 => ("CrossShutsModel", "links", "[I", true)
  | 24 => ("CrossShutsModel", "found", "[I", true)
  | 25 => ("CrossShutsModel", "foundMany", "I", false)
  | 26 => ("CrossShutsModel", "rowBack", "[I", true)
  | 27 => ("CrossShutsModel", "turnHis", "[I", true)
  | 28 => ("CrossShutsModel", "turnOther", "[I", true)
  | 29 => ("CrossShutsModel", "turnRests", "[I", true)
  | 30 => ("CrossShutsModel", "turnMove", "[I", true)
  | 31 => ("CrossShutsModel", "seen", "[I", true)
  | 32 => ("CrossShutsModel", "seenMany", "I", false)
  | 33 => ("CrossShutsModel", "rig", "[I", true)
  | 34 => ("CrossShutsModel", "opens", "[I", true)
  | 35 => ("CrossShutsModel", "closed", "[I", true)
  | 36 => ("CrossShutsModel", "isKept", "[Z", true)
  | 37 => ("CrossShutsModel", "lanes", "[I", true)
  | 38 => ("CrossShutsModel", "lengths", "[I", true)
  | 39 => ("CrossShutsModel", "cells", "[I", true)
  | _ => ("CrossShutsModel", "torn", "I", false)
def tyX7 : Nat → FieldType := fun k => match k with
  | 0 => .array .int
  | 1 => .int
  | 2 => .array .int
  | 3 => .int
  | 4 => .int
  | 5 => .int
  | 6 => .int
  | 7 => .int
  | 8 => .int
  | 9 => .array .int
  | 10 => .array .int
  | 11 => .array .int
  | 12 => .int
  | 13 => .int
  | 14 => .int
  | 15 => .int
  | 16 => .int
  | 17 => .int
  | 18 => .int
  | 19 => .int
  | 20 => .array .int
  | 21 => .array .int
  | 22 => .array .int
  | 23 => .array .int
  | 24 => .array .int
  | 25 => .int
  | 26 => .array .int
  | 27 => .array .int
  | 28 => .array .int
  | 29 => .array .int
  | 30 => .array .int
  | 31 => .array .int
  | 32 => .int
  | 33 => .array .int
  | 34 => .array .int
  | 35 => .array .int
  | 36 => .array .boolean
  | 37 => .array .int
  | 38 => .array .int
  | 39 => .array .int
  | _ => .int
abbrev wsX70 : List Cond := u_ws RX7 TX7 41
theorem nmX7 : ∀ a, a < 41 → ∀ b, b < 41 → a ≠ b → (TX7 a).2.1 ≠ (TX7 b).2.1 := by decide +kernel
theorem tyX7_ok : ∀ k, k < 41 → parseFieldDescriptor (TX7 k).2.2.1 = some (tyX7 k) := by decide +kernel
abbrev xe_cl : List vw_C := [(RX0, TX0, 7), (RX1, TX1, 3), (RX2, TX2, 12), (RX3, TX3, 12), (RX4, TX4, 13), (RX5, TX5, 10), (RX6, TX6, 10), (RX7, TX7, 41)]
def xe_tyL : List (Nat → FieldType) := [tyX0, tyX1, tyX2, tyX3, tyX4, tyX5, tyX6, tyX7]
def xe_own : List String := ["CrossShuts$Plays", "CrossShuts$Sheets", "CrossShuts$Teller", "CrossShuts$Town", "CrossShuts$Watch", "CrossShuts$Ways", "CrossShuts", "CrossShutsModel", "CrossShutsLaw", "java/lang/String", "java/lang/StringLatin1", "java/lang/StringUTF16", "jdk/internal/util/Preconditions", "java/util/Arrays", "java/lang/Math"]
abbrev xe_M : Type := Nat × MethodName × ByteArray × Nat × Option FieldType × Nat
def xe_mL0 : List xe_M := [(0, ⟨"CrossShuts$Plays", "<init>", "()V"⟩, prog_2_method_1_code, 1, none, 0),
  (0, ⟨"CrossShuts$Plays", "guarding", "(LCrossShuts$Town;IIII)I"⟩, prog_2_method_2_code, 7, (some .int), 5),
  (0, ⟨"CrossShuts$Plays", "holdFrom", "(IIII)V"⟩, prog_2_method_3_code, 7, none, 4),
  (0, ⟨"CrossShuts$Plays", "winning", "(LCrossShuts$Town;IIII)I"⟩, prog_2_method_4_code, 8, (some .int), 5),
  (0, ⟨"CrossShuts$Plays", "winningMove", "(IIII)I"⟩, prog_2_method_5_code, 7, (some .int), 4),
  (0, ⟨"CrossShuts$Plays", "canHinder", "(IIII)Z"⟩, prog_2_method_6_code, 7, (some .boolean), 4),
  (0, ⟨"CrossShuts$Plays", "luck", "(LCrossShuts$Town;III)J"⟩, prog_2_method_7_code, 11, (some .long), 4),
  (0, ⟨"CrossShuts$Plays", "luckyShares", "(III)J"⟩, prog_2_method_8_code, 10, (some .long), 3),
  (0, ⟨"CrossShuts$Plays", "bridgesAt", "(I)I"⟩, prog_2_method_9_code, 4, (some .int), 1),
  (0, ⟨"CrossShuts$Plays", "sharesBehind", "(I)J"⟩, prog_2_method_10_code, 4, (some .long), 1),
  (0, ⟨"CrossShuts$Plays", "commonDivisor", "(JJ)J"⟩, prog_2_method_11_code, 11, (some .long), 2),
  (1, ⟨"CrossShuts$Sheets", "<init>", "()V"⟩, prog_3_method_1_code, 1, none, 0),
  (1, ⟨"CrossShuts$Sheets", "isSheet", "(I)Z"⟩, prog_3_method_2_code, 1, (some .boolean), 1),
  (1, ⟨"CrossShuts$Sheets", "isLane", "(I)Z"⟩, prog_3_method_3_code, 1, (some .boolean), 1),
  (1, ⟨"CrossShuts$Sheets", "make", "(III)V"⟩, prog_3_method_4_code, 4, none, 3),
  (1, ⟨"CrossShuts$Sheets", "faultAt", "(II)I"⟩, prog_3_method_5_code, 3, (some .int), 2),
  (1, ⟨"CrossShuts$Sheets", "faultAs", "(III)I"⟩, prog_3_method_6_code, 4, (some .int), 3),
  (1, ⟨"CrossShuts$Sheets", "put", "(III)V"⟩, prog_3_method_7_code, 5, none, 3),
  (1, ⟨"CrossShuts$Sheets", "cell", "(II)I"⟩, prog_3_method_8_code, 3, (some .int), 2),
  (1, ⟨"CrossShuts$Sheets", "cellsOf", "(I)I"⟩, prog_3_method_9_code, 2, (some .int), 1),
  (2, ⟨"CrossShuts$Teller", "<init>", "()V"⟩, prog_4_method_1_code, 1, none, 0),
  (2, ⟨"CrossShuts$Teller", "takeEight", "(J)I"⟩, prog_4_method_2_code, 4, (some .int), 1),
  (2, ⟨"CrossShuts$Teller", "cutTo", "(I)I"⟩, prog_4_method_3_code, 3, (some .int), 1),
  (2, ⟨"CrossShuts$Teller", "tell", "(LCrossShuts$Town;)I"⟩, prog_4_method_4_code, 4, (some .int), 1),
  (2, ⟨"CrossShuts$Teller", "takeLine", "()Z"⟩, prog_4_method_5_code, 4, (some .boolean), 0),
  (2, ⟨"CrossShuts$Teller", "takeNumber", "(II)Z"⟩, prog_4_method_6_code, 3, (some .boolean), 2),
  (2, ⟨"CrossShuts$Teller", "isKind", "(I)Z"⟩, prog_4_method_7_code, 2, (some .boolean), 1),
  (2, ⟨"CrossShuts$Teller", "isTaken", "(II)Z"⟩, prog_4_method_8_code, 3, (some .boolean), 2),
  (2, ⟨"CrossShuts$Teller", "tellLine", "(III)V"⟩, prog_4_method_9_code, 4, none, 3),
  (2, ⟨"CrossShuts$Teller", "blame", "(II)Z"⟩, prog_4_method_10_code, 3, (some .boolean), 2),
  (2, ⟨"CrossShuts$Teller", "readToken", "()V"⟩, prog_4_method_11_code, 1, none, 0),
  (2, ⟨"CrossShuts$Teller", "readNumber", "()V"⟩, prog_4_method_12_code, 1, none, 0),
  (2, ⟨"CrossShuts$Teller", "isLetter", "(B)Z"⟩, prog_4_method_13_code, 1, (some .boolean), 1),
  (2, ⟨"CrossShuts$Teller", "isFigure", "(B)Z"⟩, prog_4_method_14_code, 1, (some .boolean), 1),
  (2, ⟨"CrossShuts$Teller", "wordHere", "()I"⟩, prog_4_method_15_code, 2, (some .int), 0),
  (2, ⟨"CrossShuts$Teller", "spells", "(Ljava/lang/String;)Z"⟩, prog_4_method_16_code, 3, (some .boolean), 1),
  (2, ⟨"CrossShuts$Teller", "nameOf", "(I)Ljava/lang/String;"⟩, prog_4_method_17_code, 1, (some (.object "java/lang/String")), 1),
  (3, ⟨"CrossShuts$Town", "<init>", "()V"⟩, prog_5_method_1_code, 1, none, 0),
  (3, ⟨"CrossShuts$Town", "clear", "()V"⟩, prog_5_method_2_code, 1, none, 0),
  (3, ⟨"CrossShuts$Town", "copyFrom", "(LCrossShuts$Town;)V"⟩, prog_5_method_3_code, 2, none, 1)]
def xe_mL1 : List xe_M := [(3, ⟨"CrossShuts$Town", "isPlace", "(I)Z"⟩, prog_5_method_4_code, 2, (some .boolean), 1),
  (3, ⟨"CrossShuts$Town", "isBridge", "(I)Z"⟩, prog_5_method_5_code, 2, (some .boolean), 1),
  (3, ⟨"CrossShuts$Town", "isOne", "(I)Z"⟩, prog_5_method_6_code, 2, (some .boolean), 1),
  (3, ⟨"CrossShuts$Town", "restOf", "(II)I"⟩, prog_5_method_7_code, 2, (some .int), 2),
  (3, ⟨"CrossShuts$Town", "withRest", "(III)I"⟩, prog_5_method_8_code, 3, (some .int), 3),
  (3, ⟨"CrossShuts$Town", "isOpen", "(II)Z"⟩, prog_5_method_9_code, 2, (some .boolean), 2),
  (3, ⟨"CrossShuts$Town", "behindMinute", "(I)I"⟩, prog_5_method_10_code, 1, (some .int), 1),
  (3, ⟨"CrossShuts$Town", "shutFor", "(III)I"⟩, prog_5_method_11_code, 3, (some .int), 3),
  (3, ⟨"CrossShuts$Town", "touches", "(II)Z"⟩, prog_5_method_12_code, 3, (some .boolean), 2),
  (3, ⟨"CrossShuts$Town", "canMove", "(III)Z"⟩, prog_5_method_13_code, 4, (some .boolean), 3),
  (3, ⟨"CrossShuts$Town", "placeAfter", "(II)I"⟩, prog_5_method_14_code, 3, (some .int), 2),
  (3, ⟨"CrossShuts$Town", "restsAfter", "(II)I"⟩, prog_5_method_15_code, 5, (some .int), 2),
  (3, ⟨"CrossShuts$Town", "crossable", "(I)I"⟩, prog_5_method_16_code, 4, (some .int), 1),
  (3, ⟨"CrossShuts$Town", "passMinute", "(I)I"⟩, prog_5_method_17_code, 5, (some .int), 1),
  (3, ⟨"CrossShuts$Town", "areMoves", "(I)Z"⟩, prog_5_method_18_code, 3, (some .boolean), 1),
  (3, ⟨"CrossShuts$Town", "hangsRound", "(I)Z"⟩, prog_5_method_19_code, 4, (some .boolean), 1),
  (3, ⟨"CrossShuts$Town", "openBridges", "()I"⟩, prog_5_method_20_code, 3, (some .int), 0),
  (3, ⟨"CrossShuts$Town", "peopleAtGoals", "()I"⟩, prog_5_method_21_code, 3, (some .int), 0),
  (4, ⟨"CrossShuts$Watch", "<init>", "()V"⟩, prog_6_method_1_code, 1, none, 0),
  (4, ⟨"CrossShuts$Watch", "add", "(IIZ)I"⟩, prog_6_method_2_code, 4, (some .int), 3),
  (4, ⟨"CrossShuts$Watch", "sift", "(LCrossShuts$Town;Z)V"⟩, prog_6_method_3_code, 3, none, 2),
  (4, ⟨"CrossShuts$Watch", "follow", "(II)V"⟩, prog_6_method_4_code, 5, none, 2),
  (4, ⟨"CrossShuts$Watch", "behind", "(II)V"⟩, prog_6_method_5_code, 4, none, 2),
  (4, ⟨"CrossShuts$Watch", "mayHang", "(II)Z"⟩, prog_6_method_6_code, 3, (some .boolean), 2),
  (4, ⟨"CrossShuts$Watch", "fits", "(I)V"⟩, prog_6_method_7_code, 5, none, 1),
  (4, ⟨"CrossShuts$Watch", "leastOn", "(I)I"⟩, prog_6_method_8_code, 2, (some .int), 1),
  (4, ⟨"CrossShuts$Watch", "firstHanging", "(I)I"⟩, prog_6_method_9_code, 4, (some .int), 1),
  (4, ⟨"CrossShuts$Watch", "tellNext", "(II)V"⟩, prog_6_method_10_code, 5, none, 2),
  (4, ⟨"CrossShuts$Watch", "tally", "(III)V"⟩, prog_6_method_11_code, 7, none, 3),
  (4, ⟨"CrossShuts$Watch", "bestLook", "(I)I"⟩, prog_6_method_12_code, 8, (some .int), 1),
  (5, ⟨"CrossShuts$Ways", "<init>", "()V"⟩, prog_7_method_1_code, 1, none, 0),
  (5, ⟨"CrossShuts$Ways", "seek", "(LCrossShuts$Town;III)V"⟩, prog_7_method_2_code, 5, none, 4),
  (5, ⟨"CrossShuts$Ways", "answer", "(I)I"⟩, prog_7_method_3_code, 3, (some .int), 1),
  (5, ⟨"CrossShuts$Ways", "placesInReach", "(LCrossShuts$Town;I)I"⟩, prog_7_method_4_code, 5, (some .int), 2),
  (5, ⟨"CrossShuts$Ways", "soonestChain", "(LCrossShuts$Town;II)I"⟩, prog_7_method_5_code, 9, (some .int), 3),
  (5, ⟨"CrossShuts$Ways", "search", "(III)V"⟩, prog_7_method_6_code, 6, none, 3),
  (5, ⟨"CrossShuts$Ways", "spread", "(I)Z"⟩, prog_7_method_7_code, 11, (some .boolean), 1),
  (5, ⟨"CrossShuts$Ways", "atGoals", "(II)Z"⟩, prog_7_method_8_code, 3, (some .boolean), 2),
  (5, ⟨"CrossShuts$Ways", "isNew", "(IIIII)Z"⟩, prog_7_method_9_code, 10, (some .boolean), 5),
  (5, ⟨"CrossShuts$Ways", "squeezed", "(I)I"⟩, prog_7_method_10_code, 1, (some .int), 1)]
def xe_mL2 : List xe_M := [(5, ⟨"CrossShuts$Ways", "placeIn", "(JI)I"⟩, prog_7_method_11_code, 3, (some .int), 2),
  (5, ⟨"CrossShuts$Ways", "movesOf", "(I)I"⟩, prog_7_method_12_code, 4, (some .int), 1),
  (6, ⟨"CrossShuts", "<init>", "()V"⟩, prog_1_method_1_code, 2, none, 0),
  (6, ⟨"CrossShuts", "feed", "(J)I"⟩, prog_1_method_2_code, 3, (some .int), 1),
  (6, ⟨"CrossShuts", "end", "(I)I"⟩, prog_1_method_3_code, 2, (some .int), 1),
  (6, ⟨"CrossShuts", "text", "()I"⟩, prog_1_method_4_code, 2, (some .int), 0),
  (6, ⟨"CrossShuts", "fault", "()I"⟩, prog_1_method_5_code, 1, (some .int), 0),
  (6, ⟨"CrossShuts", "rule", "(I)I"⟩, prog_1_method_6_code, 2, (some .int), 1),
  (6, ⟨"CrossShuts", "bridge", "(II)I"⟩, prog_1_method_7_code, 3, (some .int), 2),
  (6, ⟨"CrossShuts", "one", "(II)I"⟩, prog_1_method_8_code, 3, (some .int), 2),
  (6, ⟨"CrossShuts", "law", "(I)I"⟩, prog_1_method_9_code, 3, (some .int), 1),
  (6, ⟨"CrossShuts", "hold", "(I)I"⟩, prog_1_method_10_code, 3, (some .int), 1),
  (6, ⟨"CrossShuts", "chain", "(II)I"⟩, prog_1_method_11_code, 4, (some .int), 2),
  (6, ⟨"CrossShuts", "shut", "(II)I"⟩, prog_1_method_12_code, 4, (some .int), 2),
  (6, ⟨"CrossShuts", "send", "(III)I"⟩, prog_1_method_13_code, 5, (some .int), 3),
  (6, ⟨"CrossShuts", "minute", "(I)I"⟩, prog_1_method_14_code, 2, (some .int), 1),
  (6, ⟨"CrossShuts", "way", "(II)I"⟩, prog_1_method_15_code, 3, (some .int), 2),
  (6, ⟨"CrossShuts", "can", "(I)I"⟩, prog_1_method_16_code, 2, (some .int), 1),
  (6, ⟨"CrossShuts", "both", "(III)I"⟩, prog_1_method_17_code, 4, (some .int), 3),
  (6, ⟨"CrossShuts", "rings", "()I"⟩, prog_1_method_18_code, 3, (some .int), 0),
  (6, ⟨"CrossShuts", "guard", "(IIII)I"⟩, prog_1_method_19_code, 5, (some .int), 4),
  (6, ⟨"CrossShuts", "game", "(IIII)I"⟩, prog_1_method_20_code, 5, (some .int), 4),
  (6, ⟨"CrossShuts", "relay", "(II)I"⟩, prog_1_method_21_code, 3, (some .int), 2),
  (6, ⟨"CrossShuts", "chance", "(III)J"⟩, prog_1_method_22_code, 4, (some .long), 3),
  (6, ⟨"CrossShuts", "saw", "(IIZ)I"⟩, prog_1_method_23_code, 4, (some .int), 3),
  (6, ⟨"CrossShuts", "forget", "(I)I"⟩, prog_1_method_24_code, 3, (some .int), 1),
  (6, ⟨"CrossShuts", "rigs", "(I)I"⟩, prog_1_method_25_code, 2, (some .int), 1),
  (6, ⟨"CrossShuts", "hangs", "(I)I"⟩, prog_1_method_26_code, 2, (some .int), 1),
  (6, ⟨"CrossShuts", "look", "(I)I"⟩, prog_1_method_27_code, 2, (some .int), 1),
  (6, ⟨"CrossShuts", "keep", "(I)I"⟩, prog_1_method_28_code, 3, (some .int), 1),
  (6, ⟨"CrossShuts", "back", "(I)I"⟩, prog_1_method_29_code, 2, (some .int), 1),
  (6, ⟨"CrossShuts", "sheet", "(III)I"⟩, prog_1_method_30_code, 4, (some .int), 3),
  (6, ⟨"CrossShuts", "lay", "(III)I"⟩, prog_1_method_31_code, 5, (some .int), 3),
  (6, ⟨"CrossShuts", "read", "(IIII)I"⟩, prog_1_method_32_code, 8, (some .int), 4),
  (6, ⟨"CrossShuts", "torn", "()I"⟩, prog_1_method_33_code, 1, (some .int), 0),
  (6, ⟨"CrossShuts", "count", "(I)I"⟩, prog_1_method_34_code, 2, (some .int), 1),
  (6, ⟨"CrossShuts", "orNone", "(I)I"⟩, prog_1_method_35_code, 1, (some .int), 1),
  (6, ⟨"CrossShuts", "asksRow", "(I)Z"⟩, prog_1_method_36_code, 1, (some .boolean), 1),
  (6, ⟨"CrossShuts", "asksPair", "(I)Z"⟩, prog_1_method_37_code, 1, (some .boolean), 1),
  (7, ⟨"CrossShutsModel", "<init>", "()V"⟩, prog_9_method_1_code, 1, none, 0)]
def xe_mL3 : List xe_M := [(7, ⟨"CrossShutsModel", "in", "(JJJ)Z"⟩, prog_9_method_3_code, 6, (some .boolean), 3),
  (7, ⟨"CrossShutsModel", "feed", "(J)I"⟩, prog_9_method_4_code, 4, (some .int), 1),
  (7, ⟨"CrossShutsModel", "end", "(I)I"⟩, prog_9_method_5_code, 3, (some .int), 1),
  (7, ⟨"CrossShutsModel", "byteAt", "(I)I"⟩, prog_9_method_6_code, 2, (some .int), 1),
  (7, ⟨"CrossShutsModel", "fails", "(I)V"⟩, prog_9_method_7_code, 2, none, 1),
  (7, ⟨"CrossShutsModel", "nameHere", "()I"⟩, prog_9_method_8_code, 4, (some .int), 0),
  (7, ⟨"CrossShutsModel", "step", "()V"⟩, prog_9_method_9_code, 2, none, 0),
  (7, ⟨"CrossShutsModel", "other", "(III)I"⟩, prog_9_method_10_code, 5, (some .int), 3),
  (7, ⟨"CrossShutsModel", "place", "(I)I"⟩, prog_9_method_11_code, 3, (some .int), 1),
  (7, ⟨"CrossShutsModel", "bridgeOf", "(I)I"⟩, prog_9_method_12_code, 3, (some .int), 1),
  (7, ⟨"CrossShutsModel", "readBridge", "()V"⟩, prog_9_method_13_code, 2, none, 0),
  (7, ⟨"CrossShutsModel", "readOne", "()V"⟩, prog_9_method_14_code, 2, none, 0),
  (7, ⟨"CrossShutsModel", "readOnce", "(I)V"⟩, prog_9_method_15_code, 2, none, 1),
  (7, ⟨"CrossShutsModel", "readLine", "()V"⟩, prog_9_method_16_code, 3, none, 0),
  (7, ⟨"CrossShutsModel", "text", "()I"⟩, prog_9_method_17_code, 3, (some .int), 0),
  (7, ⟨"CrossShutsModel", "fault", "()I"⟩, prog_9_method_18_code, 1, (some .int), 0),
  (7, ⟨"CrossShutsModel", "bridges", "()I"⟩, prog_9_method_19_code, 1, (some .int), 0),
  (7, ⟨"CrossShutsModel", "isBridge", "(I)Z"⟩, prog_9_method_20_code, 2, (some .boolean), 1),
  (7, ⟨"CrossShutsModel", "isOne", "(I)Z"⟩, prog_9_method_21_code, 2, (some .boolean), 1),
  (7, ⟨"CrossShutsModel", "areTwo", "(II)Z"⟩, prog_9_method_22_code, 3, (some .boolean), 2),
  (7, ⟨"CrossShutsModel", "placeOf", "(I)I"⟩, prog_9_method_23_code, 2, (some .int), 1),
  (7, ⟨"CrossShutsModel", "goalOf", "(I)I"⟩, prog_9_method_24_code, 2, (some .int), 1),
  (7, ⟨"CrossShutsModel", "holds", "()I"⟩, prog_9_method_25_code, 1, (some .int), 0),
  (7, ⟨"CrossShutsModel", "rule", "(I)I"⟩, prog_9_method_26_code, 2, (some .int), 1),
  (7, ⟨"CrossShutsModel", "bridge", "(II)I"⟩, prog_9_method_27_code, 3, (some .int), 2),
  (7, ⟨"CrossShutsModel", "worksNow", "()V"⟩, prog_9_method_28_code, 2, none, 0),
  (7, ⟨"CrossShutsModel", "works", "(I)V"⟩, prog_9_method_29_code, 3, none, 1),
  (7, ⟨"CrossShutsModel", "codeNow", "()I"⟩, prog_9_method_30_code, 3, (some .int), 0),
  (7, ⟨"CrossShutsModel", "canCross", "(II)Z"⟩, prog_9_method_31_code, 3, (some .boolean), 2),
  (7, ⟨"CrossShutsModel", "shuts", "(I)V"⟩, prog_9_method_32_code, 2, none, 1),
  (7, ⟨"CrossShutsModel", "crosses", "(II)I"⟩, prog_9_method_33_code, 4, (some .int), 2),
  (7, ⟨"CrossShutsModel", "ends", "()V"⟩, prog_9_method_34_code, 2, none, 0),
  (7, ⟨"CrossShutsModel", "moves", "(II)I"⟩, prog_9_method_35_code, 3, (some .int), 2),
  (7, ⟨"CrossShutsModel", "one", "(II)I"⟩, prog_9_method_36_code, 5, (some .int), 2),
  (7, ⟨"CrossShutsModel", "law", "(I)I"⟩, prog_9_method_37_code, 3, (some .int), 1),
  (7, ⟨"CrossShutsModel", "hold", "(I)I"⟩, prog_9_method_38_code, 3, (some .int), 1),
  (7, ⟨"CrossShutsModel", "chain", "(II)I"⟩, prog_9_method_39_code, 4, (some .int), 2),
  (7, ⟨"CrossShutsModel", "shut", "(II)I"⟩, prog_9_method_40_code, 4, (some .int), 2),
  (7, ⟨"CrossShutsModel", "send", "(III)I"⟩, prog_9_method_41_code, 5, (some .int), 3),
  (7, ⟨"CrossShutsModel", "goesBy", "(I)I"⟩, prog_9_method_42_code, 6, (some .int), 1)]
def xe_mL4 : List xe_M := [(7, ⟨"CrossShutsModel", "minute", "(I)I"⟩, prog_9_method_43_code, 2, (some .int), 1),
  (7, ⟨"CrossShutsModel", "begins", "(I)V"⟩, prog_9_method_44_code, 3, none, 1),
  (7, ⟨"CrossShutsModel", "finds", "(III)V"⟩, prog_9_method_45_code, 4, none, 3),
  (7, ⟨"CrossShutsModel", "tracesBack", "(I)I"⟩, prog_9_method_46_code, 5, (some .int), 1),
  (7, ⟨"CrossShutsModel", "searchesOne", "(II)I"⟩, prog_9_method_47_code, 7, (some .int), 2),
  (7, ⟨"CrossShutsModel", "told", "(II)I"⟩, prog_9_method_48_code, 4, (some .int), 2),
  (7, ⟨"CrossShutsModel", "way", "(II)I"⟩, prog_9_method_49_code, 3, (some .int), 2),
  (7, ⟨"CrossShutsModel", "can", "(I)I"⟩, prog_9_method_50_code, 4, (some .int), 1),
  (7, ⟨"CrossShutsModel", "both", "(III)I"⟩, prog_9_method_51_code, 12, (some .int), 3),
  (7, ⟨"CrossShutsModel", "rings", "()I"⟩, prog_9_method_52_code, 5, (some .int), 0),
  (7, ⟨"CrossShutsModel", "guard", "(IIII)I"⟩, prog_9_method_53_code, 10, (some .int), 4),
  (7, ⟨"CrossShutsModel", "guards", "(IIII)I"⟩, prog_9_method_54_code, 10, (some .int), 4),
  (7, ⟨"CrossShutsModel", "wideNow", "()I"⟩, prog_9_method_55_code, 3, (some .int), 0),
  (7, ⟨"CrossShutsModel", "worksWide", "(I)V"⟩, prog_9_method_56_code, 3, none, 1),
  (7, ⟨"CrossShutsModel", "lays", "(IIII)V"⟩, prog_9_method_57_code, 5, none, 4),
  (7, ⟨"CrossShutsModel", "wins", "(III)Z"⟩, prog_9_method_58_code, 8, (some .boolean), 3),
  (7, ⟨"CrossShutsModel", "tries", "(II)Z"⟩, prog_9_method_59_code, 5, (some .boolean), 2),
  (7, ⟨"CrossShutsModel", "winsIn", "(IIII)Z"⟩, prog_9_method_60_code, 6, (some .boolean), 4),
  (7, ⟨"CrossShutsModel", "game", "(IIII)I"⟩, prog_9_method_61_code, 7, (some .int), 4),
  (7, ⟨"CrossShutsModel", "relay", "(II)I"⟩, prog_9_method_62_code, 10, (some .int), 2),
  (7, ⟨"CrossShutsModel", "lowest", "(JJI)J"⟩, prog_9_method_63_code, 11, (some .long), 3),
  (7, ⟨"CrossShutsModel", "bridgeAt", "(II)I"⟩, prog_9_method_64_code, 5, (some .int), 2),
  (7, ⟨"CrossShutsModel", "manyAt", "(I)I"⟩, prog_9_method_65_code, 3, (some .int), 1),
  (7, ⟨"CrossShutsModel", "weighs", "(III)J"⟩, prog_9_method_66_code, 12, (some .long), 3),
  (7, ⟨"CrossShutsModel", "chance", "(III)J"⟩, prog_9_method_67_code, 10, (some .long), 3),
  (7, ⟨"CrossShutsModel", "saw", "(IIZ)I"⟩, prog_9_method_68_code, 4, (some .int), 3),
  (7, ⟨"CrossShutsModel", "forget", "(I)I"⟩, prog_9_method_69_code, 3, (some .int), 1),
  (7, ⟨"CrossShutsModel", "laysRig", "(I)V"⟩, prog_9_method_70_code, 6, none, 1),
  (7, ⟨"CrossShutsModel", "rigMany", "()I"⟩, prog_9_method_71_code, 3, (some .int), 0),
  (7, ⟨"CrossShutsModel", "goesByRig", "(I)Z"⟩, prog_9_method_72_code, 3, (some .boolean), 1),
  (7, ⟨"CrossShutsModel", "fits", "()Z"⟩, prog_9_method_73_code, 2, (some .boolean), 0),
  (7, ⟨"CrossShutsModel", "rigs", "(I)I"⟩, prog_9_method_74_code, 5, (some .int), 1),
  (7, ⟨"CrossShutsModel", "hangs", "(I)I"⟩, prog_9_method_75_code, 4, (some .int), 1),
  (7, ⟨"CrossShutsModel", "laysLooks", "()V"⟩, prog_9_method_76_code, 5, none, 0),
  (7, ⟨"CrossShutsModel", "look", "(I)I"⟩, prog_9_method_77_code, 8, (some .int), 1),
  (7, ⟨"CrossShutsModel", "copies", "(II)V"⟩, prog_9_method_78_code, 4, none, 2),
  (7, ⟨"CrossShutsModel", "keep", "(I)I"⟩, prog_9_method_79_code, 3, (some .int), 1),
  (7, ⟨"CrossShutsModel", "back", "(I)I"⟩, prog_9_method_80_code, 2, (some .int), 1),
  (7, ⟨"CrossShutsModel", "sheet", "(III)I"⟩, prog_9_method_81_code, 5, (some .int), 3),
  (7, ⟨"CrossShutsModel", "lay", "(III)I"⟩, prog_9_method_82_code, 4, (some .int), 3)]
def xe_mL5 : List xe_M := [(7, ⟨"CrossShutsModel", "read", "(IIII)I"⟩, prog_9_method_83_code, 7, (some .int), 4),
  (7, ⟨"CrossShutsModel", "torn", "()I"⟩, prog_9_method_84_code, 1, (some .int), 0),
  (7, ⟨"CrossShutsModel", "count", "(I)I"⟩, prog_9_method_85_code, 5, (some .int), 1),
  (9, ⟨"java/lang/String", "length", "()I"⟩, prog_12_method_54_code, 1, (some .int), 0),
  (9, ⟨"java/lang/String", "charAt", "(I)C"⟩, prog_12_method_56_code, 2, (some .char), 1),
  (9, ⟨"java/lang/String", "coder", "()B"⟩, prog_12_method_152_code, 1, (some .byte), 0),
  (9, ⟨"java/lang/String", "isLatin1", "()Z"⟩, prog_12_method_154_code, 1, (some .boolean), 0),
  (9, ⟨"java/lang/String", "checkIndex", "(II)V"⟩, prog_12_method_155_code, 2, none, 2),
  (10, ⟨"java/lang/StringLatin1", "charAt", "([BI)C"⟩, prog_13_method_2_code, 2, (some .char), 2),
  (11, ⟨"java/lang/StringUTF16", "getChar", "([BI)C"⟩, prog_14_method_5_code, 2, (some .char), 2),
  (11, ⟨"java/lang/StringUTF16", "length", "([B)I"⟩, prog_14_method_6_code, 1, (some .int), 1),
  (11, ⟨"java/lang/StringUTF16", "charAt", "([BI)C"⟩, prog_14_method_83_code, 2, (some .char), 2),
  (11, ⟨"java/lang/StringUTF16", "checkIndex", "(I[B)V"⟩, prog_14_method_91_code, 2, none, 2),
  (13, ⟨"java/util/Arrays", "rangeCheck", "(III)V"⟩, prog_16_method_30_code, 3, none, 3),
  (13, ⟨"java/util/Arrays", "fill", "([JIIJ)V"⟩, prog_16_method_102_code, 6, none, 4),
  (13, ⟨"java/util/Arrays", "fill", "([II)V"⟩, prog_16_method_103_code, 4, none, 2),
  (13, ⟨"java/util/Arrays", "fill", "([IIII)V"⟩, prog_16_method_104_code, 5, none, 4),
  (13, ⟨"java/util/Arrays", "copyOf", "([JI)[J"⟩, prog_16_method_124_code, 3, (some (.array .long)), 2),
  (12, ⟨"jdk/internal/util/Preconditions", "checkIndex", "(IILjava/util/function/BiFunction;)I"⟩, prog_17_method_11_code, 3, (some .int), 3)]
def xe_mL6 : List xe_M := [(8, ⟨"CrossShutsLaw", "law", "([I)Z"⟩, code, 4, (some .boolean), 1)]
def xe_mL : List xe_M := xe_mL0 ++ (xe_mL1 ++ (xe_mL2 ++ (xe_mL3 ++ (xe_mL4 ++ (xe_mL5 ++ (xe_mL6))))))
def xe_fL : List (Nat × Nat × Nat × Nat) := [(0, 11, 0, 1), (0, 15, 0, 2), (0, 18, 0, 0), (0, 22, 0, 5), (0, 32, 0, 3), (0, 35, 0, 4), (0, 38, 3, 10), (0, 43, 3, 6), (0, 56, 3, 1), (0, 77, 3, 11), (0, 80, 0, 6), (1, 11, 1, 0), (1, 15, 1, 1), (1, 18, 1, 2), (2, 11, 2, 0), (2, 15, 2, 1), (2, 19, 2, 4), (2, 28, 2, 5), (2, 31, 2, 2), (2, 34, 2, 9), (2, 37, 2, 10), (2, 40, 2, 11), (2, 46, 2, 6), (2, 53, 3, 0), (2, 56, 3, 1), (2, 63, 2, 3), (2, 74, 2, 7), (2, 77, 3, 2), (2, 90, 2, 8), (2, 106, 3, 9), (2, 109, 3, 6), (2, 115, 3, 4), (2, 118, 3, 3), (2, 121, 3, 7), (2, 124, 3, 8), (2, 137, 3, 10), (2, 140, 3, 11), (3, 9, 3, 7), (3, 15, 3, 8), (3, 18, 3, 9), (3, 21, 3, 10), (3, 24, 3, 11), (3, 30, 3, 0), (3, 34, 3, 1), (3, 37, 3, 2), (3, 40, 3, 3), (3, 43, 3, 4), (3, 46, 3, 5), (3, 49, 3, 6), (4, 9, 4, 2), (4, 15, 4, 3), (4, 18, 4, 4), (4, 21, 4, 5), (4, 25, 4, 6), (4, 28, 4, 7), (4, 31, 4, 8), (4, 34, 4, 0), (4, 38, 3, 1), (4, 43, 4, 9), (4, 44, 3, 4), (4, 47, 4, 10), (4, 48, 4, 11), (4, 52, 4, 1), (4, 56, 4, 12), (5, 11, 5, 0), (5, 15, 5, 1), (5, 18, 5, 3), (5, 22, 5, 4), (5, 26, 5, 5), (5, 30, 3, 11), (5, 35, 5, 6), (5, 39, 5, 7), (5, 42, 3, 10), (5, 49, 5, 8), (5, 52, 5, 9), (5, 60, 5, 2), (5, 71, 3, 1), (5, 74, 3, 9), (5, 87, 3, 6), (6, 10, 6, 0), (6, 16, 6, 1), (6, 19, 6, 2), (6, 23, 6, 3), (6, 30, 6, 4), (6, 37, 6, 5), (6, 44, 6, 6), (6, 51, 6, 7), (6, 58, 6, 8), (6, 62, 6, 9), (6, 82, 4, 0), (6, 85, 2, 2), (6, 88, 3, 0), (6, 91, 3, 1), (6, 94, 3, 2), (6, 97, 3, 3), (6, 100, 3, 4), (6, 103, 3, 5), (6, 110, 3, 7), (6, 114, 3, 8), (6, 117, 3, 9), (6, 123, 3, 6), (6, 133, 3, 10), (6, 136, 3, 11), (6, 206, 4, 1), (6, 212, 4, 2), (6, 247, 2, 1), (7, 7, 7, 0), (7, 13, 7, 1), (7, 17, 7, 2), (7, 20, 7, 9), (7, 23, 7, 10), (7, 26, 7, 11), (7, 29, 7, 20), (7, 32, 7, 21), (7, 35, 7, 22), (7, 39, 7, 23), (7, 42, 7, 24), (7, 45, 7, 26), (7, 48, 7, 27), (7, 51, 7, 28), (7, 54, 7, 29), (7, 57, 7, 30), (7, 60, 7, 31), (7, 63, 7, 33), (7, 66, 7, 34), (7, 69, 7, 35), (7, 72, 7, 36), (7, 76, 7, 37), (7, 79, 7, 38), (7, 82, 7, 39), (7, 85, 7, 12), (7, 92, 7, 14), (7, 95, 7, 17), (7, 98, 7, 15), (7, 101, 7, 18), (7, 104, 7, 16), (7, 111, 7, 19), (7, 133, 7, 5), (7, 136, 7, 6), (7, 142, 7, 4), (7, 145, 7, 3), (7, 160, 7, 8), (7, 166, 7, 7), (7, 175, 7, 13), (7, 178, 7, 32), (7, 229, 7, 25), (7, 326, 7, 40), (9, 9, 13, 0), (9, 15, 13, 1)]
def xe_cL : List (Nat × Nat × Nat × Nat) := [(0, 3, 4, 0), (0, 26, 7, 0), (0, 46, 0, 2), (0, 50, 5, 0), (0, 59, 0, 49), (0, 63, 0, 51), (0, 66, 1, 46), (0, 70, 1, 45), (0, 74, 0, 50), (0, 82, 0, 4), (0, 86, 0, 5), (0, 90, 1, 9), (0, 94, 0, 7), (0, 98, 1, 10), (0, 102, 0, 8), (0, 105, 0, 48), (1, 3, 4, 0), (1, 21, 1, 215), (1, 27, 1, 216), (1, 30, 0, 16), (2, 3, 4, 0), (2, 23, 0, 38), (2, 43, 0, 30), (2, 49, 0, 24), (2, 59, 0, 29), (2, 66, 0, 26), (2, 70, 0, 34), (2, 87, 0, 25), (2, 93, 0, 27), (2, 102, 0, 28), (2, 112, 1, 45), (2, 127, 6, 0), (2, 133, 1, 44), (2, 143, 1, 32), (2, 147, 1, 33), (2, 150, 0, 31), (2, 153, 7, 0), (2, 156, 1, 36), (2, 160, 0, 35), (2, 164, 0, 203), (2, 168, 0, 204), (3, 3, 4, 0), (3, 27, 0, 38), (3, 52, 1, 215), (3, 58, 5, 0), (3, 65, 0, 48), (3, 69, 1, 45), (3, 72, 1, 47), (3, 76, 1, 44), (3, 79, 0, 49), (3, 83, 0, 54), (3, 87, 0, 51), (3, 91, 0, 50), (3, 94, 1, 46), (3, 98, 0, 41), (4, 3, 4, 0), (4, 59, 1, 215), (4, 65, 0, 61), (4, 69, 0, 64), (4, 73, 0, 62), (4, 76, 1, 45), (4, 80, 1, 47), (4, 84, 0, 63), (4, 87, 1, 46), (4, 91, 0, 65), (4, 94, 7, 0), (4, 100, 0, 67), (4, 103, 0, 68), (4, 107, 6, 0), (5, 5, 4, 0), (5, 45, 0, 75), (5, 55, 0, 81), (5, 63, 1, 80), (5, 67, 0, 71), (5, 77, 0, 41), (5, 81, 1, 214), (5, 90, 0, 78), (5, 94, 0, 77), (5, 99, 0, 76), (5, 103, 0, 49), (5, 107, 0, 51), (5, 111, 1, 46), (5, 114, 0, 50), (5, 117, 1, 79), (5, 120, 1, 217), (6, 1, 4, 0), (6, 9, 2, 37), (6, 29, 3, 20), (6, 36, 3, 70), (6, 43, 3, 0), (6, 50, 3, 58), (6, 57, 2, 11), (6, 66, 0, 21), (6, 70, 0, 22), (6, 74, 0, 23), (6, 78, 0, 39), (6, 106, 0, 41), (6, 120, 1, 116), (6, 126, 1, 43), (6, 130, 0, 42), (6, 139, 0, 52), (6, 142, 1, 44), (6, 146, 0, 40), (6, 149, 0, 53), (6, 152, 1, 117), (6, 156, 0, 71), (6, 160, 0, 72), (6, 163, 0, 73), (6, 167, 7, 0), (6, 172, 6, 0), (6, 175, 0, 55), (6, 178, 0, 1), (6, 182, 1, 118), (6, 185, 0, 3), (6, 188, 0, 74), (6, 194, 0, 6), (6, 198, 0, 59), (6, 202, 0, 60), (6, 209, 0, 66), (6, 215, 0, 69), (6, 218, 1, 12), (6, 221, 1, 13), (6, 224, 0, 14), (6, 228, 0, 15), (6, 231, 0, 17), (6, 234, 0, 16), (6, 237, 0, 18), (6, 240, 0, 56), (6, 244, 0, 57), (6, 250, 0, 19), (7, 1, 4, 0), (7, 88, 1, 120), (7, 107, 0, 123), (7, 122, 0, 124), (7, 126, 0, 126), (7, 129, 0, 127), (7, 139, 0, 128), (7, 148, 0, 125), (7, 154, 0, 130), (7, 157, 0, 131), (7, 163, 0, 129), (7, 169, 0, 132), (7, 172, 0, 133), (7, 181, 0, 136), (7, 184, 0, 138), (7, 188, 0, 142), (7, 191, 0, 137), (7, 196, 0, 149), (7, 199, 0, 148), (7, 203, 0, 150), (7, 209, 0, 145), (7, 212, 0, 140), (7, 215, 0, 141), (7, 220, 0, 152), (7, 223, 0, 151), (7, 226, 0, 159), (7, 232, 0, 147), (7, 235, 0, 161), (7, 238, 0, 146), (7, 241, 0, 162), (7, 245, 0, 163), (7, 248, 0, 164), (7, 251, 0, 165), (7, 254, 0, 139), (7, 257, 0, 171), (7, 261, 0, 176), (7, 264, 0, 173), (7, 267, 0, 172), (7, 270, 0, 174), (7, 274, 0, 175), (7, 278, 0, 177), (7, 282, 0, 181), (7, 285, 0, 182), (7, 294, 0, 183), (7, 298, 1, 180), (7, 302, 0, 189), (7, 307, 0, 188), (7, 310, 0, 187), (7, 313, 0, 190), (7, 317, 0, 193), (7, 320, 0, 195), (9, 335, 0, 205), (9, 492, 0, 206), (9, 495, 1, 208), (9, 498, 1, 211), (9, 1059, 1, 218), (10, 9, 1, 207), (11, 48, 1, 210), (11, 67, 1, 212), (11, 71, 1, 209), (11, 414, 1, 207), (13, 13, 1, 213), (13, 304, 7, 0), (13, 150, 5, 0), (8, 9, 2, 82), (8, 12, 2, 119), (8, 15, 0, 83), (8, 19, 0, 121), (8, 20, 0, 84), (8, 24, 0, 122), (8, 25, 0, 85), (8, 29, 0, 134), (8, 30, 0, 86), (8, 33, 0, 135), (8, 34, 0, 87), (8, 37, 0, 143), (8, 38, 0, 88), (8, 42, 0, 144), (8, 43, 0, 89), (8, 46, 0, 153), (8, 47, 0, 90), (8, 50, 0, 154), (8, 51, 0, 91), (8, 54, 0, 155), (8, 55, 0, 92), (8, 58, 0, 156), (8, 59, 0, 93), (8, 62, 0, 157), (8, 63, 0, 94), (8, 67, 0, 158), (8, 68, 0, 95), (8, 71, 0, 160), (8, 72, 0, 96), (8, 75, 0, 166), (8, 76, 0, 97), (8, 79, 0, 167), (8, 80, 0, 98), (8, 83, 0, 168), (8, 84, 0, 99), (8, 87, 0, 169), (8, 88, 0, 100), (8, 92, 0, 170), (8, 93, 0, 101), (8, 96, 0, 178), (8, 97, 0, 102), (8, 100, 0, 179), (8, 101, 0, 103), (8, 105, 0, 184), (8, 106, 0, 104), (8, 110, 0, 185), (8, 111, 0, 105), (8, 114, 0, 186), (8, 115, 0, 106), (8, 118, 0, 191), (8, 119, 0, 107), (8, 122, 0, 192), (8, 123, 0, 108), (8, 126, 0, 194), (8, 127, 0, 109), (8, 130, 0, 196), (8, 131, 0, 110), (8, 134, 0, 197), (8, 135, 0, 111), (8, 138, 0, 198), (8, 139, 0, 112), (8, 142, 0, 199), (8, 143, 0, 113), (8, 146, 0, 200), (8, 147, 0, 114), (8, 150, 0, 201), (8, 151, 0, 115), (8, 154, 0, 202)]
def xe_kL : List (Nat × Nat × Nat) := [(6, 7, 3), (6, 27, 2), (6, 34, 5), (6, 41, 0), (6, 48, 4), (6, 55, 1), (8, 7, 6), (8, 10, 7)]
def xe_aL : List (Nat × Nat) := [(6, 7)]
def xe_iL : List (Nat × Nat × Int32) := [(3, 64, 37449), (4, 55, 117649), (5, 59, 1000000), (5, 98, 102400), (5, 102, 262143), (6, 155, 1000000), (7, 38, 102400)]
def xe_lL : List (Nat × Nat × Int64) := [(0, 108, 60), (6, 192, -1), (7, 114, 97), (7, 116, 122), (7, 118, 48), (7, 120, 57), (7, 152, 6), (7, 194, 3), (7, 207, 2), (7, 218, 511), (7, 288, 60), (7, 290, 5), (7, 292, -1), (7, 305, 10), (7, 324, 20), (8, 13, 4294967295)]
def xe_tL : List (Nat × Nat × Nat) := [(2, 172, 0), (2, 173, 1), (2, 174, 2), (2, 175, 3), (2, 177, 4), (2, 179, 5), (2, 181, 6)]
def xe_sL : List (Nat × Nat × Nat) := [(2, 80, 1), (2, 84, 2), (2, 96, 3), (2, 99, 4), (9, 38, 20), (9, 1053, 19)]
