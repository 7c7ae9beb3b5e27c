def RX0 : String := "MarchMetres$History"
def TX0 : u_T := fun k => match k with
  | 0 => ("MarchMetres$History", "states", "[LMarchMetres$State;", true)
  | 1 => ("MarchMetres$History", "oldest", "I", false)
  | _ => ("MarchMetres$History", "size", "I", false)
def tyX0 : Nat → FieldType := fun k => match k with
  | 0 => .array (.object "MarchMetres$State")
  | 1 => .int
  | _ => .int
abbrev wsX00 : List Cond := u_ws RX0 TX0 3
theorem nmX0 : ∀ a, a < 3 → ∀ b, b < 3 → a ≠ b → (TX0 a).2.1 ≠ (TX0 b).2.1 := by decide +kernel
theorem tyX0_ok : ∀ k, k < 3 → parseFieldDescriptor (TX0 k).2.2.1 = some (tyX0 k) := by decide +kernel
abbrev cX0_init : ByteArray := prog_2_method_1_code
def yX0_init : MethodName := ⟨RX0, "<init>", "()V"⟩
abbrev cX0_record : ByteArray := prog_2_method_2_code
def yX0_record : MethodName := ⟨RX0, "record", "(LMarchMetres$State;)V"⟩
abbrev cX0_takeBackInto : ByteArray := prog_2_method_3_code
def yX0_takeBackInto : MethodName := ⟨RX0, "takeBackInto", "(LMarchMetres$State;)V"⟩
abbrev cX0_stateAt : ByteArray := prog_2_method_4_code
def yX0_stateAt : MethodName := ⟨RX0, "stateAt", "(I)LMarchMetres$State;"⟩
abbrev cX0_placeOf : ByteArray := prog_2_method_5_code
def yX0_placeOf : MethodName := ⟨RX0, "placeOf", "(I)I"⟩
def RX1 : String := "MarchMetres$March"
def TX1 : u_T := fun k => match k with
  | 0 => ("MarchMetres$March", "beats", "I", false)
  | 1 => ("MarchMetres$March", "ticks", "I", false)
  | 2 => ("MarchMetres$March", "line", "I", false)
  | 3 => ("MarchMetres$March", "foot", "I", false)
  | 4 => ("MarchMetres$March", "beat", "I", false)
  | 5 => ("MarchMetres$March", "stretch", "I", false)
  | 6 => ("MarchMetres$March", "steps", "I", false)
  | 7 => ("MarchMetres$March", "sungOnStretch", "I", false)
  | 8 => ("MarchMetres$March", "breath", "I", false)
  | 9 => ("MarchMetres$March", "pauseLeft", "I", false)
  | 10 => ("MarchMetres$March", "allSteps", "I", false)
  | 11 => ("MarchMetres$March", "skipped", "I", false)
  | 12 => ("MarchMetres$March", "gasps", "I", false)
  | 13 => ("MarchMetres$March", "songs", "I", false)
  | _ => ("MarchMetres$March", "sung", "I", false)
def tyX1 : Nat → FieldType := fun k => match k with
  | 0 => .int
  | 1 => .int
  | 2 => .int
  | 3 => .int
  | 4 => .int
  | 5 => .int
  | 6 => .int
  | 7 => .int
  | 8 => .int
  | 9 => .int
  | 10 => .int
  | 11 => .int
  | 12 => .int
  | 13 => .int
  | _ => .int
abbrev wsX10 : List Cond := u_ws RX1 TX1 15
theorem nmX1 : ∀ a, a < 15 → ∀ b, b < 15 → a ≠ b → (TX1 a).2.1 ≠ (TX1 b).2.1 := by decide +kernel
theorem tyX1_ok : ∀ k, k < 15 → parseFieldDescriptor (TX1 k).2.2.1 = some (tyX1 k) := by decide +kernel
abbrev cX1_init : ByteArray := prog_3_method_1_code
def yX1_init : MethodName := ⟨RX1, "<init>", "()V"⟩
abbrev cX1_startAnew : ByteArray := prog_3_method_2_code
def yX1_startAnew : MethodName := ⟨RX1, "startAnew", "(I)V"⟩
abbrev cX1_isAtEndOf : ByteArray := prog_3_method_3_code
def yX1_isAtEndOf : MethodName := ⟨RX1, "isAtEndOf", "(LMarchMetres$Road;)Z"⟩
abbrev cX1_goUntilWalked : ByteArray := prog_3_method_4_code
def yX1_goUntilWalked : MethodName := ⟨RX1, "goUntilWalked", "(LMarchMetres$Song;LMarchMetres$Road;LMarchMetres$Settings;I)V"⟩
abbrev cX1_goOn : ByteArray := prog_3_method_5_code
def yX1_goOn : MethodName := ⟨RX1, "goOn", "(LMarchMetres$Song;LMarchMetres$Road;LMarchMetres$Settings;)V"⟩
abbrev cX1_stepOn : ByteArray := prog_3_method_6_code
def yX1_stepOn : MethodName := ⟨RX1, "stepOn", "(LMarchMetres$Road;I)V"⟩
abbrev cX1_singOn : ByteArray := prog_3_method_7_code
def yX1_singOn : MethodName := ⟨RX1, "singOn", "(LMarchMetres$Song;I)V"⟩
abbrev cX1_copyFrom : ByteArray := prog_3_method_8_code
def yX1_copyFrom : MethodName := ⟨RX1, "copyFrom", "(LMarchMetres$March;)V"⟩
def RX2 : String := "MarchMetres$Pad"
def TX2 : u_T := fun k => match k with
  | 0 => ("MarchMetres$Pad", "codes", "[I", true)
  | _ => ("MarchMetres$Pad", "length", "I", false)
def tyX2 : Nat → FieldType := fun k => match k with
  | 0 => .array .int
  | _ => .int
abbrev wsX20 : List Cond := u_ws RX2 TX2 2
theorem nmX2 : ∀ a, a < 2 → ∀ b, b < 2 → a ≠ b → (TX2 a).2.1 ≠ (TX2 b).2.1 := by decide +kernel
theorem tyX2_ok : ∀ k, k < 2 → parseFieldDescriptor (TX2 k).2.2.1 = some (tyX2 k) := by decide +kernel
abbrev cX2_init : ByteArray := prog_4_method_1_code
def yX2_init : MethodName := ⟨RX2, "<init>", "()V"⟩
abbrev cX2_charactersIn : ByteArray := prog_4_method_2_code
def yX2_charactersIn : MethodName := ⟨RX2, "charactersIn", "(J)I"⟩
abbrev cX2_codeIn : ByteArray := prog_4_method_3_code
def yX2_codeIn : MethodName := ⟨RX2, "codeIn", "(JI)I"⟩
abbrev cX2_append : ByteArray := prog_4_method_4_code
def yX2_append : MethodName := ⟨RX2, "append", "(I)V"⟩
abbrev cX2_empty : ByteArray := prog_4_method_5_code
def yX2_empty : MethodName := ⟨RX2, "empty", "()V"⟩
abbrev cX2_faultIndex : ByteArray := prog_4_method_6_code
def yX2_faultIndex : MethodName := ⟨RX2, "faultIndex", "()I"⟩
abbrev cX2_writeInto : ByteArray := prog_4_method_7_code
def yX2_writeInto : MethodName := ⟨RX2, "writeInto", "(LMarchMetres$Song;)V"⟩
abbrev cX2_beatsMeantBy : ByteArray := prog_4_method_8_code
def yX2_beatsMeantBy : MethodName := ⟨RX2, "beatsMeantBy", "(I)I"⟩
def RX3 : String := "MarchMetres$Road"
def TX3 : u_T := fun k => match k with
  | 0 => ("MarchMetres$Road", "stretches", "I", false)
  | 1 => ("MarchMetres$Road", "steps", "[I", true)
  | 2 => ("MarchMetres$Road", "slopes", "[I", true)
  | _ => ("MarchMetres$Road", "muds", "[Z", true)
def tyX3 : Nat → FieldType := fun k => match k with
  | 0 => .int
  | 1 => .array .int
  | 2 => .array .int
  | _ => .array .boolean
abbrev wsX30 : List Cond := u_ws RX3 TX3 4
theorem nmX3 : ∀ a, a < 4 → ∀ b, b < 4 → a ≠ b → (TX3 a).2.1 ≠ (TX3 b).2.1 := by decide +kernel
theorem tyX3_ok : ∀ k, k < 4 → parseFieldDescriptor (TX3 k).2.2.1 = some (tyX3 k) := by decide +kernel
abbrev cX3_init : ByteArray := prog_5_method_1_code
def yX3_init : MethodName := ⟨RX3, "<init>", "()V"⟩
abbrev cX3_add : ByteArray := prog_5_method_2_code
def yX3_add : MethodName := ⟨RX3, "add", "(IIZ)V"⟩
abbrev cX3_remove : ByteArray := prog_5_method_3_code
def yX3_remove : MethodName := ⟨RX3, "remove", "(I)V"⟩
abbrev cX3_has : ByteArray := prog_5_method_4_code
def yX3_has : MethodName := ⟨RX3, "has", "(I)Z"⟩
abbrev cX3_stepsOf : ByteArray := prog_5_method_5_code
def yX3_stepsOf : MethodName := ⟨RX3, "stepsOf", "(I)I"⟩
abbrev cX3_slopeOf : ByteArray := prog_5_method_6_code
def yX3_slopeOf : MethodName := ⟨RX3, "slopeOf", "(I)I"⟩
abbrev cX3_isMuddy : ByteArray := prog_5_method_7_code
def yX3_isMuddy : MethodName := ⟨RX3, "isMuddy", "(I)Z"⟩
abbrev cX3_beatsToSing : ByteArray := prog_5_method_8_code
def yX3_beatsToSing : MethodName := ⟨RX3, "beatsToSing", "(II)I"⟩
abbrev cX3_allSteps : ByteArray := prog_5_method_9_code
def yX3_allSteps : MethodName := ⟨RX3, "allSteps", "()I"⟩
abbrev cX3_copyFrom : ByteArray := prog_5_method_10_code
def yX3_copyFrom : MethodName := ⟨RX3, "copyFrom", "(LMarchMetres$Road;)V"⟩
def RX4 : String := "MarchMetres$Settings"
def TX4 : u_T := fun k => match k with
  | _ => ("MarchMetres$Settings", "values", "[I", true)
def tyX4 : Nat → FieldType := fun k => match k with
  | _ => .array .int
abbrev wsX40 : List Cond := u_ws RX4 TX4 1
theorem nmX4 : ∀ a, a < 1 → ∀ b, b < 1 → a ≠ b → (TX4 a).2.1 ≠ (TX4 b).2.1 := by decide +kernel
theorem tyX4_ok : ∀ k, k < 1 → parseFieldDescriptor (TX4 k).2.2.1 = some (tyX4 k) := by decide +kernel
abbrev cX4_init : ByteArray := prog_6_method_1_code
def yX4_init : MethodName := ⟨RX4, "<init>", "()V"⟩
abbrev cX4_has : ByteArray := prog_6_method_2_code
def yX4_has : MethodName := ⟨RX4, "has", "(I)Z"⟩
abbrev cX4_allows : ByteArray := prog_6_method_3_code
def yX4_allows : MethodName := ⟨RX4, "allows", "(II)Z"⟩
abbrev cX4_valueOf : ByteArray := prog_6_method_4_code
def yX4_valueOf : MethodName := ⟨RX4, "valueOf", "(I)I"⟩
abbrev cX4_change : ByteArray := prog_6_method_5_code
def yX4_change : MethodName := ⟨RX4, "change", "(II)V"⟩
abbrev cX4_copyFrom : ByteArray := prog_6_method_6_code
def yX4_copyFrom : MethodName := ⟨RX4, "copyFrom", "(LMarchMetres$Settings;)V"⟩
def RX5 : String := "MarchMetres$Song"
def TX5 : u_T := fun k => match k with
  | 0 => ("MarchMetres$Song", "lines", "I", false)
  | 1 => ("MarchMetres$Song", "feet", "[I", true)
  | 2 => ("MarchMetres$Song", "beats", "[I", true)
  | _ => ("MarchMetres$Song", "marks", "[Z", true)
def tyX5 : Nat → FieldType := fun k => match k with
  | 0 => .int
  | 1 => .array .int
  | 2 => .array .int
  | _ => .array .boolean
abbrev wsX50 : List Cond := u_ws RX5 TX5 4
theorem nmX5 : ∀ a, a < 4 → ∀ b, b < 4 → a ≠ b → (TX5 a).2.1 ≠ (TX5 b).2.1 := by decide +kernel
theorem tyX5_ok : ∀ k, k < 4 → parseFieldDescriptor (TX5 k).2.2.1 = some (tyX5 k) := by decide +kernel
abbrev cX5_init : ByteArray := prog_7_method_1_code
def yX5_init : MethodName := ⟨RX5, "<init>", "()V"⟩
abbrev cX5_clear : ByteArray := prog_7_method_2_code
def yX5_clear : MethodName := ⟨RX5, "clear", "()V"⟩
abbrev cX5_addLine : ByteArray := prog_7_method_3_code
def yX5_addLine : MethodName := ⟨RX5, "addLine", "()V"⟩
abbrev cX5_addFoot : ByteArray := prog_7_method_4_code
def yX5_addFoot : MethodName := ⟨RX5, "addFoot", "(I)V"⟩
abbrev cX5_markLastFoot : ByteArray := prog_7_method_5_code
def yX5_markLastFoot : MethodName := ⟨RX5, "markLastFoot", "()V"⟩
abbrev cX5_hasLine : ByteArray := prog_7_method_6_code
def yX5_hasLine : MethodName := ⟨RX5, "hasLine", "(I)Z"⟩
abbrev cX5_hasFoot : ByteArray := prog_7_method_7_code
def yX5_hasFoot : MethodName := ⟨RX5, "hasFoot", "(II)Z"⟩
abbrev cX5_feetOf : ByteArray := prog_7_method_8_code
def yX5_feetOf : MethodName := ⟨RX5, "feetOf", "(I)I"⟩
abbrev cX5_beatsOf : ByteArray := prog_7_method_9_code
def yX5_beatsOf : MethodName := ⟨RX5, "beatsOf", "(II)I"⟩
abbrev cX5_isMarked : ByteArray := prog_7_method_10_code
def yX5_isMarked : MethodName := ⟨RX5, "isMarked", "(II)Z"⟩
abbrev cX5_beatsOfLine : ByteArray := prog_7_method_11_code
def yX5_beatsOfLine : MethodName := ⟨RX5, "beatsOfLine", "(I)I"⟩
abbrev cX5_marksOfLine : ByteArray := prog_7_method_12_code
def yX5_marksOfLine : MethodName := ⟨RX5, "marksOfLine", "(I)I"⟩
abbrev cX5_allBeats : ByteArray := prog_7_method_13_code
def yX5_allBeats : MethodName := ⟨RX5, "allBeats", "()I"⟩
abbrev cX5_allMarks : ByteArray := prog_7_method_14_code
def yX5_allMarks : MethodName := ⟨RX5, "allMarks", "()I"⟩
abbrev cX5_copyFrom : ByteArray := prog_7_method_15_code
def yX5_copyFrom : MethodName := ⟨RX5, "copyFrom", "(LMarchMetres$Song;)V"⟩
def RX6 : String := "MarchMetres$State"
def TX6 : u_T := fun k => match k with
  | 0 => ("MarchMetres$State", "settings", "LMarchMetres$Settings;", true)
  | 1 => ("MarchMetres$State", "song", "LMarchMetres$Song;", true)
  | 2 => ("MarchMetres$State", "road", "LMarchMetres$Road;", true)
  | _ => ("MarchMetres$State", "march", "LMarchMetres$March;", true)
def tyX6 : Nat → FieldType := fun k => match k with
  | 0 => .object "MarchMetres$Settings"
  | 1 => .object "MarchMetres$Song"
  | 2 => .object "MarchMetres$Road"
  | _ => .object "MarchMetres$March"
abbrev wsX60 : List Cond := u_ws RX6 TX6 4
theorem nmX6 : ∀ a, a < 4 → ∀ b, b < 4 → a ≠ b → (TX6 a).2.1 ≠ (TX6 b).2.1 := by decide +kernel
theorem tyX6_ok : ∀ k, k < 4 → parseFieldDescriptor (TX6 k).2.2.1 = some (tyX6 k) := by decide +kernel
abbrev cX6_init : ByteArray := prog_8_method_1_code
def yX6_init : MethodName := ⟨RX6, "<init>", "()V"⟩
abbrev cX6_startMarch : ByteArray := prog_8_method_2_code
def yX6_startMarch : MethodName := ⟨RX6, "startMarch", "()V"⟩
abbrev cX6_copyFrom : ByteArray := prog_8_method_3_code
def yX6_copyFrom : MethodName := ⟨RX6, "copyFrom", "(LMarchMetres$State;)V"⟩
def RX7 : String := "MarchMetres"
def TX7 : u_T := fun k => match k with
  | 0 => ("MarchMetres", "now", "LMarchMetres$State;", true)
  | 1 => ("MarchMetres", "slots", "[LMarchMetres$State;", true)
  | 2 => ("MarchMetres", "isSaved", "[Z", true)
  | 3 => ("MarchMetres", "history", "LMarchMetres$History;", true)
  | 4 => ("MarchMetres", "pad", "LMarchMetres$Pad;", true)
  | 5 => ("MarchMetres", "trial", "LMarchMetres$March;", true)
  | _ => ("MarchMetres", "trialSettings", "LMarchMetres$Settings;", true)
def tyX7 : Nat → FieldType := fun k => match k with
  | 0 => .object "MarchMetres$State"
  | 1 => .array (.object "MarchMetres$State")
  | 2 => .array .boolean
  | 3 => .object "MarchMetres$History"
  | 4 => .object "MarchMetres$Pad"
  | 5 => .object "MarchMetres$March"
  | _ => .object "MarchMetres$Settings"
abbrev wsX70 : List Cond := u_ws RX7 TX7 7
theorem nmX7 : ∀ a, a < 7 → ∀ b, b < 7 → a ≠ b → (TX7 a).2.1 ≠ (TX7 b).2.1 := by decide +kernel
theorem tyX7_ok : ∀ k, k < 7 → parseFieldDescriptor (TX7 k).2.2.1 = some (tyX7 k) := by decide +kernel
abbrev cX7_init : ByteArray := prog_1_method_1_code
def yX7_init : MethodName := ⟨RX7, "<init>", "()V"⟩
abbrev cX7_set : ByteArray := prog_1_method_2_code
def yX7_set : MethodName := ⟨RX7, "set", "(II)I"⟩
abbrev cX7_read : ByteArray := prog_1_method_3_code
def yX7_read : MethodName := ⟨RX7, "read", "()I"⟩
abbrev cX7_pave : ByteArray := prog_1_method_4_code
def yX7_pave : MethodName := ⟨RX7, "pave", "(IIZ)I"⟩
abbrev cX7_tear : ByteArray := prog_1_method_5_code
def yX7_tear : MethodName := ⟨RX7, "tear", "(I)I"⟩
abbrev cX7_begin : ByteArray := prog_1_method_6_code
def yX7_begin : MethodName := ⟨RX7, "begin", "()I"⟩
abbrev cX7_march : ByteArray := prog_1_method_7_code
def yX7_march : MethodName := ⟨RX7, "march", "(I)I"⟩
abbrev cX7_line : ByteArray := prog_1_method_8_code
def yX7_line : MethodName := ⟨RX7, "line", "(II)I"⟩
abbrev cX7_foot : ByteArray := prog_1_method_9_code
def yX7_foot : MethodName := ⟨RX7, "foot", "(III)I"⟩
abbrev cX7_stretch : ByteArray := prog_1_method_10_code
def yX7_stretch : MethodName := ⟨RX7, "stretch", "(II)I"⟩
abbrev cX7_walk : ByteArray := prog_1_method_11_code
def yX7_walk : MethodName := ⟨RX7, "walk", "(I)I"⟩
abbrev cX7_count : ByteArray := prog_1_method_12_code
def yX7_count : MethodName := ⟨RX7, "count", "(I)I"⟩
abbrev cX7_untilWalked : ByteArray := prog_1_method_13_code
def yX7_untilWalked : MethodName := ⟨RX7, "untilWalked", "(I)I"⟩
abbrev cX7_together : ByteArray := prog_1_method_14_code
def yX7_together : MethodName := ⟨RX7, "together", "()I"⟩
abbrev cX7_meets : ByteArray := prog_1_method_15_code
def yX7_meets : MethodName := ⟨RX7, "meets", "(II)I"⟩
abbrev cX7_leastBreath : ByteArray := prog_1_method_16_code
def yX7_leastBreath : MethodName := ⟨RX7, "leastBreath", "()I"⟩
abbrev cX7_bestPause : ByteArray := prog_1_method_17_code
def yX7_bestPause : MethodName := ⟨RX7, "bestPause", "()I"⟩
abbrev cX7_put : ByteArray := prog_1_method_18_code
def yX7_put : MethodName := ⟨RX7, "put", "(J)I"⟩
abbrev cX7_wipe : ByteArray := prog_1_method_19_code
def yX7_wipe : MethodName := ⟨RX7, "wipe", "()I"⟩
abbrev cX7_fault : ByteArray := prog_1_method_20_code
def yX7_fault : MethodName := ⟨RX7, "fault", "()I"⟩
abbrev cX7_undo : ByteArray := prog_1_method_21_code
def yX7_undo : MethodName := ⟨RX7, "undo", "()I"⟩
abbrev cX7_save : ByteArray := prog_1_method_22_code
def yX7_save : MethodName := ⟨RX7, "save", "(I)I"⟩
abbrev cX7_restore : ByteArray := prog_1_method_23_code
def yX7_restore : MethodName := ⟨RX7, "restore", "(I)I"⟩
abbrev cX7_isReady : ByteArray := prog_1_method_24_code
def yX7_isReady : MethodName := ⟨RX7, "isReady", "()Z"⟩
abbrev cX7_isSlot : ByteArray := prog_1_method_25_code
def yX7_isSlot : MethodName := ⟨RX7, "isSlot", "(I)Z"⟩
abbrev cX7_songsByCounting : ByteArray := prog_1_method_26_code
def yX7_songsByCounting : MethodName := ⟨RX7, "songsByCounting", "(II)I"⟩
abbrev cX7_songsAtOnce : ByteArray := prog_1_method_27_code
def yX7_songsAtOnce : MethodName := ⟨RX7, "songsAtOnce", "(II)I"⟩
abbrev cX7_greatestShared : ByteArray := prog_1_method_28_code
def yX7_greatestShared : MethodName := ⟨RX7, "greatestShared", "(II)I"⟩
def RX8 : String := "MarchMetresModel"
def TX8 : u_T := fun k => match k with
  | 0 => ("MarchMetresModel", "z", "[I", true)
  | 1 => ("MarchMetresModel", "spare", "[I", true)
  | 2 => ("MarchMetresModel", "past", "[I", true)
  | 3 => ("MarchMetresModel", "states", "I", false)
  | 4 => ("MarchMetresModel", "slots", "[I", true)
  | 5 => ("MarchMetresModel", "isSaved", "[Z", true)
  | 6 => ("MarchMetresModel", "pad", "[I", true)
  | 7 => ("MarchMetresModel", "typed", "I", false)
  | 8 => ("MarchMetresModel", "songEnded", "Z", false)
  | 9 => ("MarchMetresModel", "stretchEnded", "Z", false)
  | 10 => ("MarchMetresModel", "spot", "I", false)
  | 11 => ("MarchMetresModel", "toldFeet", "[I", true)
  | 12 => ("MarchMetresModel", "toldMany", "[I", true)
  | _ => ("MarchMetresModel", "toldLines", "I", false)
def tyX8 : Nat → FieldType := fun k => match k with
  | 0 => .array .int
  | 1 => .array .int
  | 2 => .array .int
  | 3 => .int
  | 4 => .array .int
  | 5 => .array .boolean
  | 6 => .array .int
  | 7 => .int
  | 8 => .boolean
  | 9 => .boolean
  | 10 => .int
  | 11 => .array .int
  | 12 => .array .int
  | _ => .int
abbrev wsX80 : List Cond := u_ws RX8 TX8 14
theorem nmX8 : ∀ a, a < 14 → ∀ b, b < 14 → a ≠ b → (TX8 a).2.1 ≠ (TX8 b).2.1 := by decide +kernel
theorem tyX8_ok : ∀ k, k < 14 → parseFieldDescriptor (TX8 k).2.2.1 = some (tyX8 k) := by decide +kernel
abbrev cX8_init : ByteArray := prog_10_method_1_code
def yX8_init : MethodName := ⟨RX8, "<init>", "()V"⟩
abbrev cX8_in : ByteArray := prog_10_method_2_code
def yX8_in : MethodName := ⟨RX8, "in", "(III)Z"⟩
abbrev cX8_ofStretch : ByteArray := prog_10_method_3_code
def yX8_ofStretch : MethodName := ⟨RX8, "ofStretch", "(II)I"⟩
abbrev cX8_isStretch : ByteArray := prog_10_method_4_code
def yX8_isStretch : MethodName := ⟨RX8, "isStretch", "(I)Z"⟩
abbrev cX8_isLine : ByteArray := prog_10_method_5_code
def yX8_isLine : MethodName := ⟨RX8, "isLine", "(I)Z"⟩
abbrev cX8_beatsOf : ByteArray := prog_10_method_6_code
def yX8_beatsOf : MethodName := ⟨RX8, "beatsOf", "(II)I"⟩
abbrev cX8_hasMark : ByteArray := prog_10_method_7_code
def yX8_hasMark : MethodName := ⟨RX8, "hasMark", "(II)Z"⟩
abbrev cX8_canMarch : ByteArray := prog_10_method_8_code
def yX8_canMarch : MethodName := ⟨RX8, "canMarch", "()Z"⟩
abbrev cX8_copyState : ByteArray := prog_10_method_9_code
def yX8_copyState : MethodName := ⟨RX8, "copyState", "([II[II)V"⟩
abbrev cX8_record : ByteArray := prog_10_method_10_code
def yX8_record : MethodName := ⟨RX8, "record", "()V"⟩
abbrev cX8_undo : ByteArray := prog_10_method_11_code
def yX8_undo : MethodName := ⟨RX8, "undo", "()I"⟩
abbrev cX8_save : ByteArray := prog_10_method_12_code
def yX8_save : MethodName := ⟨RX8, "save", "(I)I"⟩
abbrev cX8_restore : ByteArray := prog_10_method_13_code
def yX8_restore : MethodName := ⟨RX8, "restore", "(I)I"⟩
abbrev cX8_beginNow : ByteArray := prog_10_method_14_code
def yX8_beginNow : MethodName := ⟨RX8, "beginNow", "()V"⟩
abbrev cX8_climb : ByteArray := prog_10_method_15_code
def yX8_climb : MethodName := ⟨RX8, "climb", "()I"⟩
abbrev cX8_step : ByteArray := prog_10_method_16_code
def yX8_step : MethodName := ⟨RX8, "step", "()V"⟩
abbrev cX8_goOn : ByteArray := prog_10_method_17_code
def yX8_goOn : MethodName := ⟨RX8, "goOn", "()V"⟩
abbrev cX8_beat : ByteArray := prog_10_method_18_code
def yX8_beat : MethodName := ⟨RX8, "beat", "()V"⟩
abbrev cX8_marchNow : ByteArray := prog_10_method_19_code
def yX8_marchNow : MethodName := ⟨RX8, "marchNow", "(I)I"⟩
abbrev cX8_march : ByteArray := prog_10_method_20_code
def yX8_march : MethodName := ⟨RX8, "march", "(I)I"⟩
abbrev cX8_begin : ByteArray := prog_10_method_21_code
def yX8_begin : MethodName := ⟨RX8, "begin", "()I"⟩
abbrev cX8_isValue : ByteArray := prog_10_method_22_code
def yX8_isValue : MethodName := ⟨RX8, "isValue", "(II)Z"⟩
abbrev cX8_set : ByteArray := prog_10_method_23_code
def yX8_set : MethodName := ⟨RX8, "set", "(II)I"⟩
abbrev cX8_pave : ByteArray := prog_10_method_24_code
def yX8_pave : MethodName := ⟨RX8, "pave", "(IIZ)I"⟩
abbrev cX8_tear : ByteArray := prog_10_method_25_code
def yX8_tear : MethodName := ⟨RX8, "tear", "(I)I"⟩
abbrev cX8_put : ByteArray := prog_10_method_26_code
def yX8_put : MethodName := ⟨RX8, "put", "(J)I"⟩
abbrev cX8_wipe : ByteArray := prog_10_method_27_code
def yX8_wipe : MethodName := ⟨RX8, "wipe", "()I"⟩
abbrev cX8_takes : ByteArray := prog_10_method_28_code
def yX8_takes : MethodName := ⟨RX8, "takes", "(I)Z"⟩
abbrev cX8_readFoot : ByteArray := prog_10_method_29_code
def yX8_readFoot : MethodName := ⟨RX8, "readFoot", "()Z"⟩
abbrev cX8_readLine : ByteArray := prog_10_method_30_code
def yX8_readLine : MethodName := ⟨RX8, "readLine", "()Z"⟩
abbrev cX8_readPad : ByteArray := prog_10_method_31_code
def yX8_readPad : MethodName := ⟨RX8, "readPad", "()Z"⟩
abbrev cX8_fault : ByteArray := prog_10_method_32_code
def yX8_fault : MethodName := ⟨RX8, "fault", "()I"⟩
abbrev cX8_read : ByteArray := prog_10_method_33_code
def yX8_read : MethodName := ⟨RX8, "read", "()I"⟩
abbrev cX8_sungIn : ByteArray := prog_10_method_34_code
def yX8_sungIn : MethodName := ⟨RX8, "sungIn", "(I)I"⟩
abbrev cX8_marksIn : ByteArray := prog_10_method_35_code
def yX8_marksIn : MethodName := ⟨RX8, "marksIn", "(I)I"⟩
abbrev cX8_line : ByteArray := prog_10_method_36_code
def yX8_line : MethodName := ⟨RX8, "line", "(II)I"⟩
abbrev cX8_foot : ByteArray := prog_10_method_37_code
def yX8_foot : MethodName := ⟨RX8, "foot", "(III)I"⟩
abbrev cX8_sungFor : ByteArray := prog_10_method_38_code
def yX8_sungFor : MethodName := ⟨RX8, "sungFor", "(IZ)I"⟩
abbrev cX8_stretch : ByteArray := prog_10_method_39_code
def yX8_stretch : MethodName := ⟨RX8, "stretch", "(II)I"⟩
abbrev cX8_walk : ByteArray := prog_10_method_40_code
def yX8_walk : MethodName := ⟨RX8, "walk", "(I)I"⟩
abbrev cX8_sungInSong : ByteArray := prog_10_method_41_code
def yX8_sungInSong : MethodName := ⟨RX8, "sungInSong", "()I"⟩
abbrev cX8_marksInSong : ByteArray := prog_10_method_42_code
def yX8_marksInSong : MethodName := ⟨RX8, "marksInSong", "()I"⟩
abbrev cX8_stepsOfRoad : ByteArray := prog_10_method_43_code
def yX8_stepsOfRoad : MethodName := ⟨RX8, "stepsOfRoad", "()I"⟩
abbrev cX8_count : ByteArray := prog_10_method_44_code
def yX8_count : MethodName := ⟨RX8, "count", "(I)I"⟩
abbrev cX8_untilWalked : ByteArray := prog_10_method_45_code
def yX8_untilWalked : MethodName := ⟨RX8, "untilWalked", "(I)I"⟩
abbrev cX8_together : ByteArray := prog_10_method_46_code
def yX8_together : MethodName := ⟨RX8, "together", "()I"⟩
abbrev cX8_meets : ByteArray := prog_10_method_47_code
def yX8_meets : MethodName := ⟨RX8, "meets", "(II)I"⟩
abbrev cX8_isWalkedAnew : ByteArray := prog_10_method_48_code
def yX8_isWalkedAnew : MethodName := ⟨RX8, "isWalkedAnew", "()Z"⟩
abbrev cX8_leastBreath : ByteArray := prog_10_method_49_code
def yX8_leastBreath : MethodName := ⟨RX8, "leastBreath", "()I"⟩
abbrev cX8_bestPause : ByteArray := prog_10_method_50_code
def yX8_bestPause : MethodName := ⟨RX8, "bestPause", "()I"⟩
def RJ9 : String := "java/lang/Math"
def TJ9 : u_T := fun k => match k with
  | _ => ("", "", "", false)
def tyJ9 : Nat → FieldType := fun k => match k with
  | _ => .int
abbrev wsJ90 : List Cond := u_ws RJ9 TJ9 0
theorem nmJ9 : ∀ a, a < 0 → ∀ b, b < 0 → a ≠ b → (TJ9 a).2.1 ≠ (TJ9 b).2.1 := by decide +kernel
theorem tyJ9_ok : ∀ k, k < 0 → parseFieldDescriptor (TJ9 k).2.2.1 = some (tyJ9 k) := by decide +kernel
abbrev cJ9_floorMod_7cf53 : ByteArray := prog_11_method_50_code
def yJ9_floorMod_7cf53 : MethodName := ⟨RJ9, "floorMod", "(II)I"⟩
abbrev cJ9_max_7cf53 : ByteArray := prog_11_method_65_code
def yJ9_max_7cf53 : MethodName := ⟨RJ9, "max", "(II)I"⟩
abbrev cJ9_min_7cf53 : ByteArray := prog_11_method_69_code
def yJ9_min_7cf53 : MethodName := ⟨RJ9, "min", "(II)I"⟩
def RL : String := "MarchMetresLaw"
abbrev cL_law : ByteArray := code
def yL_law : MethodName := ⟨RL, "law", "([I)Z"⟩
def wsJ9_floorMod_7cf53 : List Cond := .code yJ9_floorMod_7cf53 cJ9_floorMod_7cf53 3 (some .int) :: ([])
def wsJ9_max_7cf53 : List Cond := .code yJ9_max_7cf53 cJ9_max_7cf53 2 (some .int) :: ([])
def wsJ9_min_7cf53 : List Cond := .code yJ9_min_7cf53 cJ9_min_7cf53 2 (some .int) :: ([])
abbrev vwCl : List vw_C := [(RX0, TX0, 3), (RX1, TX1, 15), (RX2, TX2, 2), (RX3, TX3, 4), (RX4, TX4, 1), (RX5, TX5, 4), (RX6, TX6, 4), (RX7, TX7, 7), (RX8, TX8, 14)]
def wsL_law : List Cond := lw_tbl.filter goodWord
theorem wsL_law_in : ∀ w ∈ wsL_law, w ∈ lw_tbl := fun _ h => (List.mem_filter.mp h).1
theorem xw_0 : ∀ w ∈ k2_sels lw_privs, goodWord w = true → w ∈ wsL_law := fun _ h g => List.mem_filter.mpr ⟨List.mem_append_left _ h, g⟩
theorem xw_1 : ∀ w ∈ tables_1_1, goodWord w = true → w ∈ wsL_law := fun _ h g => List.mem_filter.mpr ⟨List.mem_append_right _ (List.mem_append_left _ h), g⟩
theorem xw_2 : ∀ w ∈ tables_1_2, goodWord w = true → w ∈ wsL_law := fun _ h g => List.mem_filter.mpr ⟨List.mem_append_right _ (List.mem_append_right _ (List.mem_append_left _ h)), g⟩
theorem xw_3 : ∀ w ∈ tables_1_3, goodWord w = true → w ∈ wsL_law := fun _ h g => List.mem_filter.mpr ⟨List.mem_append_right _ (List.mem_append_right _ (List.mem_append_right _ (List.mem_append_left _ h))), g⟩
theorem xw_4 : ∀ w ∈ tables_1_4, goodWord w = true → w ∈ wsL_law := fun _ h g => List.mem_filter.mpr ⟨List.mem_append_right _ (List.mem_append_right _ (List.mem_append_right _ (List.mem_append_right _ h))), g⟩
theorem mw_1_11 : Cond.classLink RL 7 RX7 ∈ wsL_law := xw_1 _ (List.mem_of_getElem? (i := 11) rfl) rfl
theorem mw_1_12 : Cond.instantiable RX7 7 ∈ wsL_law := xw_1 _ (List.mem_of_getElem? (i := 12) rfl) rfl
theorem mw_1_1 : Cond.initialized RX7 ∈ wsL_law := xw_1 _ (List.mem_of_getElem? (i := 1) rfl) rfl
theorem mw_3_79 : Cond.classLink RL 10 RX8 ∈ wsL_law := xw_3 _ (List.mem_of_getElem? (i := 79) rfl) rfl
theorem mw_3_80 : Cond.instantiable RX8 14 ∈ wsL_law := xw_3 _ (List.mem_of_getElem? (i := 80) rfl) rfl
theorem mw_1_9 : Cond.initialized RX8 ∈ wsL_law := xw_1 _ (List.mem_of_getElem? (i := 9) rfl) rfl
theorem mw_4_82 : Cond.constantLong RL 82 (4294967295) ∈ wsL_law := xw_4 _ (List.mem_of_getElem? (i := 82) rfl) rfl
theorem mw_1_13 : Cond.methodLink RL 9 yX7_init ∈ wsL_law := xw_1 _ (List.mem_of_getElem? (i := 13) rfl) rfl
theorem mw_1_14 : Cond.instanceMethod yX7_init ∈ wsL_law := xw_1 _ (List.mem_of_getElem? (i := 14) rfl) rfl
theorem mw_1_15 : Cond.code yX7_init cX7_init 2 none ∈ wsL_law := xw_1 _ (List.mem_of_getElem? (i := 15) rfl) rfl
theorem mw_1_16 : Cond.methodLink RX7 3 objectInit ∈ wsL_law := xw_1 _ (List.mem_of_getElem? (i := 16) rfl) rfl
theorem mw_1_17 : Cond.instanceMethod objectInit ∈ wsL_law := xw_1 _ (List.mem_of_getElem? (i := 17) rfl) rfl
theorem mw_1_18 : Cond.code objectInit ⟨#[0xb1]⟩ 1 none ∈ wsL_law := xw_1 _ (List.mem_of_getElem? (i := 18) rfl) rfl
theorem mw_1_19 : Cond.classLink RX7 9 RX6 ∈ wsL_law := xw_1 _ (List.mem_of_getElem? (i := 19) rfl) rfl
theorem mw_1_20 : Cond.instantiable RX6 4 ∈ wsL_law := xw_1 _ (List.mem_of_getElem? (i := 20) rfl) rfl
theorem mw_1_2 : Cond.initialized RX6 ∈ wsL_law := xw_1 _ (List.mem_of_getElem? (i := 2) rfl) rfl
theorem mw_1_217 : Cond.fieldLink RX7 12 "MarchMetres" "now" "LMarchMetres$State;" ∈ wsL_law := xw_1 _ (List.mem_of_getElem? (i := 217) rfl) rfl
theorem mw_1_218 : Cond.fieldLink RX7 16 "MarchMetres" "slots" "[LMarchMetres$State;" ∈ wsL_law := xw_1 _ (List.mem_of_getElem? (i := 218) rfl) rfl
theorem mw_1_59 : Cond.arrayClass .boolean ∈ wsL_law := xw_1 _ (List.mem_of_getElem? (i := 59) rfl) rfl
theorem mw_1_219 : Cond.fieldLink RX7 20 "MarchMetres" "isSaved" "[Z" ∈ wsL_law := xw_1 _ (List.mem_of_getElem? (i := 219) rfl) rfl
theorem mw_1_165 : Cond.classLink RX7 24 RX0 ∈ wsL_law := xw_1 _ (List.mem_of_getElem? (i := 165) rfl) rfl
theorem mw_1_166 : Cond.instantiable RX0 3 ∈ wsL_law := xw_1 _ (List.mem_of_getElem? (i := 166) rfl) rfl
theorem mw_1_7 : Cond.initialized RX0 ∈ wsL_law := xw_1 _ (List.mem_of_getElem? (i := 7) rfl) rfl
theorem mw_1_220 : Cond.fieldLink RX7 27 "MarchMetres" "history" "LMarchMetres$History;" ∈ wsL_law := xw_1 _ (List.mem_of_getElem? (i := 220) rfl) rfl
theorem mw_1_184 : Cond.classLink RX7 31 RX2 ∈ wsL_law := xw_1 _ (List.mem_of_getElem? (i := 184) rfl) rfl
theorem mw_1_185 : Cond.instantiable RX2 2 ∈ wsL_law := xw_1 _ (List.mem_of_getElem? (i := 185) rfl) rfl
theorem mw_1_8 : Cond.initialized RX2 ∈ wsL_law := xw_1 _ (List.mem_of_getElem? (i := 8) rfl) rfl
theorem mw_1_221 : Cond.fieldLink RX7 34 "MarchMetres" "pad" "LMarchMetres$Pad;" ∈ wsL_law := xw_1 _ (List.mem_of_getElem? (i := 221) rfl) rfl
theorem mw_1_198 : Cond.classLink RX7 38 RX1 ∈ wsL_law := xw_1 _ (List.mem_of_getElem? (i := 198) rfl) rfl
theorem mw_1_82 : Cond.instantiable RX1 15 ∈ wsL_law := xw_1 _ (List.mem_of_getElem? (i := 82) rfl) rfl
theorem mw_1_6 : Cond.initialized RX1 ∈ wsL_law := xw_1 _ (List.mem_of_getElem? (i := 6) rfl) rfl
theorem mw_1_222 : Cond.fieldLink RX7 41 "MarchMetres" "trial" "LMarchMetres$March;" ∈ wsL_law := xw_1 _ (List.mem_of_getElem? (i := 222) rfl) rfl
theorem mw_1_200 : Cond.classLink RX7 45 RX4 ∈ wsL_law := xw_1 _ (List.mem_of_getElem? (i := 200) rfl) rfl
theorem mw_1_26 : Cond.instantiable RX4 1 ∈ wsL_law := xw_1 _ (List.mem_of_getElem? (i := 26) rfl) rfl
theorem mw_1_3 : Cond.initialized RX4 ∈ wsL_law := xw_1 _ (List.mem_of_getElem? (i := 3) rfl) rfl
theorem mw_1_223 : Cond.fieldLink RX7 48 "MarchMetres" "trialSettings" "LMarchMetres$Settings;" ∈ wsL_law := xw_1 _ (List.mem_of_getElem? (i := 223) rfl) rfl
theorem mw_1_22 : Cond.instanceMethod yX6_init ∈ wsL_law := xw_1 _ (List.mem_of_getElem? (i := 22) rfl) rfl
theorem mw_1_23 : Cond.code yX6_init cX6_init 1 none ∈ wsL_law := xw_1 _ (List.mem_of_getElem? (i := 23) rfl) rfl
theorem mw_1_24 : Cond.methodLink RX6 3 objectInit ∈ wsL_law := xw_1 _ (List.mem_of_getElem? (i := 24) rfl) rfl
theorem mw_1_25 : Cond.classLink RX6 9 RX4 ∈ wsL_law := xw_1 _ (List.mem_of_getElem? (i := 25) rfl) rfl
theorem mw_1_147 : Cond.fieldLink RX6 12 "MarchMetres$State" "settings" "LMarchMetres$Settings;" ∈ wsL_law := xw_1 _ (List.mem_of_getElem? (i := 147) rfl) rfl
theorem mw_1_38 : Cond.classLink RX6 18 RX5 ∈ wsL_law := xw_1 _ (List.mem_of_getElem? (i := 38) rfl) rfl
theorem mw_1_39 : Cond.instantiable RX5 4 ∈ wsL_law := xw_1 _ (List.mem_of_getElem? (i := 39) rfl) rfl
theorem mw_1_4 : Cond.initialized RX5 ∈ wsL_law := xw_1 _ (List.mem_of_getElem? (i := 4) rfl) rfl
theorem mw_1_149 : Cond.fieldLink RX6 21 "MarchMetres$State" "song" "LMarchMetres$Song;" ∈ wsL_law := xw_1 _ (List.mem_of_getElem? (i := 149) rfl) rfl
theorem mw_1_60 : Cond.classLink RX6 25 RX3 ∈ wsL_law := xw_1 _ (List.mem_of_getElem? (i := 60) rfl) rfl
theorem mw_1_61 : Cond.instantiable RX3 4 ∈ wsL_law := xw_1 _ (List.mem_of_getElem? (i := 61) rfl) rfl
theorem mw_1_5 : Cond.initialized RX3 ∈ wsL_law := xw_1 _ (List.mem_of_getElem? (i := 5) rfl) rfl
theorem mw_1_151 : Cond.fieldLink RX6 28 "MarchMetres$State" "road" "LMarchMetres$Road;" ∈ wsL_law := xw_1 _ (List.mem_of_getElem? (i := 151) rfl) rfl
theorem mw_1_81 : Cond.classLink RX6 32 RX1 ∈ wsL_law := xw_1 _ (List.mem_of_getElem? (i := 81) rfl) rfl
theorem mw_1_153 : Cond.fieldLink RX6 35 "MarchMetres$State" "march" "LMarchMetres$March;" ∈ wsL_law := xw_1 _ (List.mem_of_getElem? (i := 153) rfl) rfl
theorem mw_1_27 : Cond.methodLink RX6 11 yX4_init ∈ wsL_law := xw_1 _ (List.mem_of_getElem? (i := 27) rfl) rfl
theorem mw_1_28 : Cond.instanceMethod yX4_init ∈ wsL_law := xw_1 _ (List.mem_of_getElem? (i := 28) rfl) rfl
theorem mw_1_29 : Cond.code yX4_init cX4_init 2 none ∈ wsL_law := xw_1 _ (List.mem_of_getElem? (i := 29) rfl) rfl
theorem mw_1_30 : Cond.methodLink RX4 3 objectInit ∈ wsL_law := xw_1 _ (List.mem_of_getElem? (i := 30) rfl) rfl
theorem mw_1_37 : Cond.arrayClass .int ∈ wsL_law := xw_1 _ (List.mem_of_getElem? (i := 37) rfl) rfl
theorem mw_1_33 : Cond.fieldLink RX4 9 "MarchMetres$Settings" "values" "[I" ∈ wsL_law := xw_1 _ (List.mem_of_getElem? (i := 33) rfl) rfl
theorem mw_1_41 : Cond.instanceMethod yX5_init ∈ wsL_law := xw_1 _ (List.mem_of_getElem? (i := 41) rfl) rfl
theorem mw_1_42 : Cond.code yX5_init cX5_init 1 none ∈ wsL_law := xw_1 _ (List.mem_of_getElem? (i := 42) rfl) rfl
theorem mw_1_43 : Cond.methodLink RX5 3 objectInit ∈ wsL_law := xw_1 _ (List.mem_of_getElem? (i := 43) rfl) rfl
theorem mw_1_47 : Cond.fieldLink RX5 9 "MarchMetres$Song" "feet" "[I" ∈ wsL_law := xw_1 _ (List.mem_of_getElem? (i := 47) rfl) rfl
theorem mw_1_48 : Cond.fieldLink RX5 15 "MarchMetres$Song" "beats" "[I" ∈ wsL_law := xw_1 _ (List.mem_of_getElem? (i := 48) rfl) rfl
theorem mw_1_49 : Cond.fieldLink RX5 18 "MarchMetres$Song" "marks" "[Z" ∈ wsL_law := xw_1 _ (List.mem_of_getElem? (i := 49) rfl) rfl
theorem mw_1_63 : Cond.instanceMethod yX3_init ∈ wsL_law := xw_1 _ (List.mem_of_getElem? (i := 63) rfl) rfl
theorem mw_1_64 : Cond.code yX3_init cX3_init 1 none ∈ wsL_law := xw_1 _ (List.mem_of_getElem? (i := 64) rfl) rfl
theorem mw_1_65 : Cond.methodLink RX3 3 objectInit ∈ wsL_law := xw_1 _ (List.mem_of_getElem? (i := 65) rfl) rfl
theorem mw_1_69 : Cond.fieldLink RX3 9 "MarchMetres$Road" "steps" "[I" ∈ wsL_law := xw_1 _ (List.mem_of_getElem? (i := 69) rfl) rfl
theorem mw_1_70 : Cond.fieldLink RX3 15 "MarchMetres$Road" "slopes" "[I" ∈ wsL_law := xw_1 _ (List.mem_of_getElem? (i := 70) rfl) rfl
theorem mw_1_71 : Cond.fieldLink RX3 18 "MarchMetres$Road" "muds" "[Z" ∈ wsL_law := xw_1 _ (List.mem_of_getElem? (i := 71) rfl) rfl
theorem mw_1_84 : Cond.instanceMethod yX1_init ∈ wsL_law := xw_1 _ (List.mem_of_getElem? (i := 84) rfl) rfl
theorem mw_1_85 : Cond.code yX1_init cX1_init 1 none ∈ wsL_law := xw_1 _ (List.mem_of_getElem? (i := 85) rfl) rfl
theorem mw_1_86 : Cond.methodLink RX1 3 objectInit ∈ wsL_law := xw_1 _ (List.mem_of_getElem? (i := 86) rfl) rfl
theorem mw_1_167 : Cond.methodLink RX7 26 yX0_init ∈ wsL_law := xw_1 _ (List.mem_of_getElem? (i := 167) rfl) rfl
theorem mw_1_168 : Cond.instanceMethod yX0_init ∈ wsL_law := xw_1 _ (List.mem_of_getElem? (i := 168) rfl) rfl
theorem mw_1_169 : Cond.code yX0_init cX0_init 2 none ∈ wsL_law := xw_1 _ (List.mem_of_getElem? (i := 169) rfl) rfl
theorem mw_1_170 : Cond.methodLink RX0 3 objectInit ∈ wsL_law := xw_1 _ (List.mem_of_getElem? (i := 170) rfl) rfl
theorem mw_1_171 : Cond.classLink RX0 9 RX6 ∈ wsL_law := xw_1 _ (List.mem_of_getElem? (i := 171) rfl) rfl
theorem mw_1_173 : Cond.fieldLink RX0 11 "MarchMetres$History" "states" "[LMarchMetres$State;" ∈ wsL_law := xw_1 _ (List.mem_of_getElem? (i := 173) rfl) rfl
theorem mw_1_187 : Cond.instanceMethod yX2_init ∈ wsL_law := xw_1 _ (List.mem_of_getElem? (i := 187) rfl) rfl
theorem mw_1_188 : Cond.code yX2_init cX2_init 1 none ∈ wsL_law := xw_1 _ (List.mem_of_getElem? (i := 188) rfl) rfl
theorem mw_1_189 : Cond.methodLink RX2 3 objectInit ∈ wsL_law := xw_1 _ (List.mem_of_getElem? (i := 189) rfl) rfl
theorem mw_1_190 : Cond.fieldLink RX2 9 "MarchMetres$Pad" "codes" "[I" ∈ wsL_law := xw_1 _ (List.mem_of_getElem? (i := 190) rfl) rfl
theorem mw_1_201 : Cond.methodLink RX7 47 yX4_init ∈ wsL_law := xw_1 _ (List.mem_of_getElem? (i := 201) rfl) rfl
theorem mw_1_202 : Cond.methodLink RX7 52 yX6_startMarch ∈ wsL_law := xw_1 _ (List.mem_of_getElem? (i := 202) rfl) rfl
theorem mw_1_203 : Cond.instanceMethod yX6_startMarch ∈ wsL_law := xw_1 _ (List.mem_of_getElem? (i := 203) rfl) rfl
theorem mw_1_204 : Cond.selects RX6 yX6_startMarch yX6_startMarch ∈ wsL_law := xw_1 _ (List.mem_of_getElem? (i := 204) rfl) rfl
theorem mw_1_205 : Cond.code yX6_startMarch cX6_startMarch 1 none ∈ wsL_law := xw_1 _ (List.mem_of_getElem? (i := 205) rfl) rfl
theorem mw_1_206 : Cond.methodLink RX6 39 yX4_valueOf ∈ wsL_law := xw_1 _ (List.mem_of_getElem? (i := 206) rfl) rfl
theorem mw_1_207 : Cond.instanceMethod yX4_valueOf ∈ wsL_law := xw_1 _ (List.mem_of_getElem? (i := 207) rfl) rfl
theorem mw_1_208 : Cond.selects RX4 yX4_valueOf yX4_valueOf ∈ wsL_law := xw_1 _ (List.mem_of_getElem? (i := 208) rfl) rfl
theorem mw_1_209 : Cond.code yX4_valueOf cX4_valueOf 2 (some .int) ∈ wsL_law := xw_1 _ (List.mem_of_getElem? (i := 209) rfl) rfl
theorem mw_1_210 : Cond.methodLink RX4 18 yX4_has ∈ wsL_law := xw_1 _ (List.mem_of_getElem? (i := 210) rfl) rfl
theorem mw_1_211 : Cond.static yX4_has ∈ wsL_law := xw_1 _ (List.mem_of_getElem? (i := 211) rfl) rfl
theorem mw_1_212 : Cond.code yX4_has cX4_has 1 (some .boolean) ∈ wsL_law := xw_1 _ (List.mem_of_getElem? (i := 212) rfl) rfl
theorem mw_1_213 : Cond.methodLink RX6 43 yX1_startAnew ∈ wsL_law := xw_1 _ (List.mem_of_getElem? (i := 213) rfl) rfl
theorem mw_1_214 : Cond.instanceMethod yX1_startAnew ∈ wsL_law := xw_1 _ (List.mem_of_getElem? (i := 214) rfl) rfl
theorem mw_1_215 : Cond.selects RX1 yX1_startAnew yX1_startAnew ∈ wsL_law := xw_1 _ (List.mem_of_getElem? (i := 215) rfl) rfl
theorem mw_1_216 : Cond.code yX1_startAnew cX1_startAnew 2 none ∈ wsL_law := xw_1 _ (List.mem_of_getElem? (i := 216) rfl) rfl
theorem mw_1_87 : Cond.fieldLink RX1 9 "MarchMetres$March" "beats" "I" ∈ wsL_law := xw_1 _ (List.mem_of_getElem? (i := 87) rfl) rfl
theorem mw_1_89 : Cond.fieldLink RX1 15 "MarchMetres$March" "ticks" "I" ∈ wsL_law := xw_1 _ (List.mem_of_getElem? (i := 89) rfl) rfl
theorem mw_1_91 : Cond.fieldLink RX1 18 "MarchMetres$March" "line" "I" ∈ wsL_law := xw_1 _ (List.mem_of_getElem? (i := 91) rfl) rfl
theorem mw_1_93 : Cond.fieldLink RX1 21 "MarchMetres$March" "foot" "I" ∈ wsL_law := xw_1 _ (List.mem_of_getElem? (i := 93) rfl) rfl
theorem mw_1_95 : Cond.fieldLink RX1 24 "MarchMetres$March" "beat" "I" ∈ wsL_law := xw_1 _ (List.mem_of_getElem? (i := 95) rfl) rfl
theorem mw_1_97 : Cond.fieldLink RX1 27 "MarchMetres$March" "stretch" "I" ∈ wsL_law := xw_1 _ (List.mem_of_getElem? (i := 97) rfl) rfl
theorem mw_1_99 : Cond.fieldLink RX1 30 "MarchMetres$March" "steps" "I" ∈ wsL_law := xw_1 _ (List.mem_of_getElem? (i := 99) rfl) rfl
theorem mw_1_101 : Cond.fieldLink RX1 33 "MarchMetres$March" "sungOnStretch" "I" ∈ wsL_law := xw_1 _ (List.mem_of_getElem? (i := 101) rfl) rfl
theorem mw_1_102 : Cond.fieldLink RX1 36 "MarchMetres$March" "breath" "I" ∈ wsL_law := xw_1 _ (List.mem_of_getElem? (i := 102) rfl) rfl
theorem mw_1_104 : Cond.fieldLink RX1 39 "MarchMetres$March" "pauseLeft" "I" ∈ wsL_law := xw_1 _ (List.mem_of_getElem? (i := 104) rfl) rfl
theorem mw_1_106 : Cond.fieldLink RX1 42 "MarchMetres$March" "allSteps" "I" ∈ wsL_law := xw_1 _ (List.mem_of_getElem? (i := 106) rfl) rfl
theorem mw_1_108 : Cond.fieldLink RX1 45 "MarchMetres$March" "skipped" "I" ∈ wsL_law := xw_1 _ (List.mem_of_getElem? (i := 108) rfl) rfl
theorem mw_1_110 : Cond.fieldLink RX1 48 "MarchMetres$March" "gasps" "I" ∈ wsL_law := xw_1 _ (List.mem_of_getElem? (i := 110) rfl) rfl
theorem mw_1_112 : Cond.fieldLink RX1 51 "MarchMetres$March" "songs" "I" ∈ wsL_law := xw_1 _ (List.mem_of_getElem? (i := 112) rfl) rfl
theorem mw_1_114 : Cond.fieldLink RX1 54 "MarchMetres$March" "sung" "I" ∈ wsL_law := xw_1 _ (List.mem_of_getElem? (i := 114) rfl) rfl
theorem mw_3_81 : Cond.methodLink RL 12 yX8_init ∈ wsL_law := xw_3 _ (List.mem_of_getElem? (i := 81) rfl) rfl
theorem mw_3_82 : Cond.instanceMethod yX8_init ∈ wsL_law := xw_3 _ (List.mem_of_getElem? (i := 82) rfl) rfl
theorem mw_3_83 : Cond.code yX8_init cX8_init 1 none ∈ wsL_law := xw_3 _ (List.mem_of_getElem? (i := 83) rfl) rfl
theorem mw_3_84 : Cond.methodLink RX8 1 objectInit ∈ wsL_law := xw_3 _ (List.mem_of_getElem? (i := 84) rfl) rfl
theorem mw_3_89 : Cond.fieldLink RX8 7 "MarchMetresModel" "z" "[I" ∈ wsL_law := xw_3 _ (List.mem_of_getElem? (i := 89) rfl) rfl
theorem mw_3_90 : Cond.fieldLink RX8 13 "MarchMetresModel" "spare" "[I" ∈ wsL_law := xw_3 _ (List.mem_of_getElem? (i := 90) rfl) rfl
theorem mw_3_91 : Cond.fieldLink RX8 16 "MarchMetresModel" "past" "[I" ∈ wsL_law := xw_3 _ (List.mem_of_getElem? (i := 91) rfl) rfl
theorem mw_3_93 : Cond.fieldLink RX8 19 "MarchMetresModel" "slots" "[I" ∈ wsL_law := xw_3 _ (List.mem_of_getElem? (i := 93) rfl) rfl
theorem mw_3_94 : Cond.fieldLink RX8 22 "MarchMetresModel" "isSaved" "[Z" ∈ wsL_law := xw_3 _ (List.mem_of_getElem? (i := 94) rfl) rfl
theorem mw_3_95 : Cond.fieldLink RX8 26 "MarchMetresModel" "pad" "[I" ∈ wsL_law := xw_3 _ (List.mem_of_getElem? (i := 95) rfl) rfl
theorem mw_3_100 : Cond.fieldLink RX8 29 "MarchMetresModel" "toldFeet" "[I" ∈ wsL_law := xw_3 _ (List.mem_of_getElem? (i := 100) rfl) rfl
theorem mw_3_101 : Cond.fieldLink RX8 32 "MarchMetresModel" "toldMany" "[I" ∈ wsL_law := xw_3 _ (List.mem_of_getElem? (i := 101) rfl) rfl
theorem mw_3_85 : Cond.methodLink RX8 35 yX8_beginNow ∈ wsL_law := xw_3 _ (List.mem_of_getElem? (i := 85) rfl) rfl
theorem mw_3_87 : Cond.instanceMethod yX8_beginNow ∈ wsL_law := xw_3 _ (List.mem_of_getElem? (i := 87) rfl) rfl
theorem mw_0_5 : Cond.selects RX8 yX8_beginNow yX8_beginNow ∈ wsL_law := xw_0 _ (List.mem_of_getElem? (i := 5) rfl) rfl
theorem mw_3_88 : Cond.code yX8_beginNow cX8_beginNow 2 none ∈ wsL_law := xw_3 _ (List.mem_of_getElem? (i := 88) rfl) rfl
theorem mw_1_239 : Cond.methodLink RL 13 yX7_set ∈ wsL_law := xw_1 _ (List.mem_of_getElem? (i := 239) rfl) rfl
theorem mw_2_0 : Cond.instanceMethod yX7_set ∈ wsL_law := xw_2 _ (List.mem_of_getElem? (i := 0) rfl) rfl
theorem mw_2_1 : Cond.selects RX7 yX7_set yX7_set ∈ wsL_law := xw_2 _ (List.mem_of_getElem? (i := 1) rfl) rfl
theorem mw_2_2 : Cond.code yX7_set cX7_set 4 (some .int) ∈ wsL_law := xw_2 _ (List.mem_of_getElem? (i := 2) rfl) rfl
theorem mw_2_3 : Cond.methodLink RX7 55 yX4_allows ∈ wsL_law := xw_2 _ (List.mem_of_getElem? (i := 3) rfl) rfl
theorem mw_2_4 : Cond.static yX4_allows ∈ wsL_law := xw_2 _ (List.mem_of_getElem? (i := 4) rfl) rfl
theorem mw_2_5 : Cond.code yX4_allows cX4_allows 2 (some .boolean) ∈ wsL_law := xw_2 _ (List.mem_of_getElem? (i := 5) rfl) rfl
theorem mw_2_10 : Cond.methodLink RX7 59 yX0_record ∈ wsL_law := xw_2 _ (List.mem_of_getElem? (i := 10) rfl) rfl
theorem mw_2_11 : Cond.instanceMethod yX0_record ∈ wsL_law := xw_2 _ (List.mem_of_getElem? (i := 11) rfl) rfl
theorem mw_2_12 : Cond.selects RX0 yX0_record yX0_record ∈ wsL_law := xw_2 _ (List.mem_of_getElem? (i := 12) rfl) rfl
theorem mw_2_13 : Cond.code yX0_record cX0_record 3 none ∈ wsL_law := xw_2 _ (List.mem_of_getElem? (i := 13) rfl) rfl
theorem mw_1_175 : Cond.fieldLink RX0 18 "MarchMetres$History" "size" "I" ∈ wsL_law := xw_1 _ (List.mem_of_getElem? (i := 175) rfl) rfl
theorem mw_1_174 : Cond.fieldLink RX0 26 "MarchMetres$History" "oldest" "I" ∈ wsL_law := xw_1 _ (List.mem_of_getElem? (i := 174) rfl) rfl
theorem mw_2_14 : Cond.methodLink RX0 22 yX0_placeOf ∈ wsL_law := xw_2 _ (List.mem_of_getElem? (i := 14) rfl) rfl
theorem mw_2_16 : Cond.instanceMethod yX0_placeOf ∈ wsL_law := xw_2 _ (List.mem_of_getElem? (i := 16) rfl) rfl
theorem mw_0_0 : Cond.selects RX0 yX0_placeOf yX0_placeOf ∈ wsL_law := xw_0 _ (List.mem_of_getElem? (i := 0) rfl) rfl
theorem mw_2_17 : Cond.code yX0_placeOf cX0_placeOf 2 (some .int) ∈ wsL_law := xw_2 _ (List.mem_of_getElem? (i := 17) rfl) rfl
theorem mw_2_18 : Cond.methodLink RX0 37 yJ9_floorMod_7cf53 ∈ wsL_law := xw_2 _ (List.mem_of_getElem? (i := 18) rfl) rfl
theorem mw_2_19 : Cond.static yJ9_floorMod_7cf53 ∈ wsL_law := xw_2 _ (List.mem_of_getElem? (i := 19) rfl) rfl
theorem mw_1_10 : Cond.initialized RJ9 ∈ wsL_law := xw_1 _ (List.mem_of_getElem? (i := 10) rfl) rfl
theorem mw_2_20 : Cond.code yJ9_floorMod_7cf53 cJ9_floorMod_7cf53 3 (some .int) ∈ wsL_law := xw_2 _ (List.mem_of_getElem? (i := 20) rfl) rfl
theorem mw_2_21 : Cond.methodLink RX0 29 yX0_stateAt ∈ wsL_law := xw_2 _ (List.mem_of_getElem? (i := 21) rfl) rfl
theorem mw_2_23 : Cond.instanceMethod yX0_stateAt ∈ wsL_law := xw_2 _ (List.mem_of_getElem? (i := 23) rfl) rfl
theorem mw_0_1 : Cond.selects RX0 yX0_stateAt yX0_stateAt ∈ wsL_law := xw_0 _ (List.mem_of_getElem? (i := 1) rfl) rfl
theorem mw_2_24 : Cond.code yX0_stateAt cX0_stateAt 3 (some (.object "MarchMetres$State")) ∈ wsL_law := xw_2 _ (List.mem_of_getElem? (i := 24) rfl) rfl
theorem mw_2_25 : Cond.methodLink RX0 33 yX6_copyFrom ∈ wsL_law := xw_2 _ (List.mem_of_getElem? (i := 25) rfl) rfl
theorem mw_2_26 : Cond.instanceMethod yX6_copyFrom ∈ wsL_law := xw_2 _ (List.mem_of_getElem? (i := 26) rfl) rfl
theorem mw_2_27 : Cond.selects RX6 yX6_copyFrom yX6_copyFrom ∈ wsL_law := xw_2 _ (List.mem_of_getElem? (i := 27) rfl) rfl
theorem mw_2_28 : Cond.code yX6_copyFrom cX6_copyFrom 2 none ∈ wsL_law := xw_2 _ (List.mem_of_getElem? (i := 28) rfl) rfl
theorem mw_2_29 : Cond.methodLink RX6 47 yX4_copyFrom ∈ wsL_law := xw_2 _ (List.mem_of_getElem? (i := 29) rfl) rfl
theorem mw_2_30 : Cond.instanceMethod yX4_copyFrom ∈ wsL_law := xw_2 _ (List.mem_of_getElem? (i := 30) rfl) rfl
theorem mw_2_31 : Cond.selects RX4 yX4_copyFrom yX4_copyFrom ∈ wsL_law := xw_2 _ (List.mem_of_getElem? (i := 31) rfl) rfl
theorem mw_2_32 : Cond.code yX4_copyFrom cX4_copyFrom 3 none ∈ wsL_law := xw_2 _ (List.mem_of_getElem? (i := 32) rfl) rfl
theorem mw_2_33 : Cond.methodLink RX6 51 yX5_copyFrom ∈ wsL_law := xw_2 _ (List.mem_of_getElem? (i := 33) rfl) rfl
theorem mw_2_34 : Cond.instanceMethod yX5_copyFrom ∈ wsL_law := xw_2 _ (List.mem_of_getElem? (i := 34) rfl) rfl
theorem mw_2_35 : Cond.selects RX5 yX5_copyFrom yX5_copyFrom ∈ wsL_law := xw_2 _ (List.mem_of_getElem? (i := 35) rfl) rfl
theorem mw_2_36 : Cond.code yX5_copyFrom cX5_copyFrom 3 none ∈ wsL_law := xw_2 _ (List.mem_of_getElem? (i := 36) rfl) rfl
theorem mw_1_44 : Cond.fieldLink RX5 22 "MarchMetres$Song" "lines" "I" ∈ wsL_law := xw_1 _ (List.mem_of_getElem? (i := 44) rfl) rfl
theorem mw_2_37 : Cond.methodLink RX6 54 yX3_copyFrom ∈ wsL_law := xw_2 _ (List.mem_of_getElem? (i := 37) rfl) rfl
theorem mw_2_38 : Cond.instanceMethod yX3_copyFrom ∈ wsL_law := xw_2 _ (List.mem_of_getElem? (i := 38) rfl) rfl
theorem mw_2_39 : Cond.selects RX3 yX3_copyFrom yX3_copyFrom ∈ wsL_law := xw_2 _ (List.mem_of_getElem? (i := 39) rfl) rfl
theorem mw_2_40 : Cond.code yX3_copyFrom cX3_copyFrom 3 none ∈ wsL_law := xw_2 _ (List.mem_of_getElem? (i := 40) rfl) rfl
theorem mw_1_66 : Cond.fieldLink RX3 22 "MarchMetres$Road" "stretches" "I" ∈ wsL_law := xw_1 _ (List.mem_of_getElem? (i := 66) rfl) rfl
theorem mw_2_41 : Cond.methodLink RX6 57 yX1_copyFrom ∈ wsL_law := xw_2 _ (List.mem_of_getElem? (i := 41) rfl) rfl
theorem mw_2_42 : Cond.instanceMethod yX1_copyFrom ∈ wsL_law := xw_2 _ (List.mem_of_getElem? (i := 42) rfl) rfl
theorem mw_2_43 : Cond.selects RX1 yX1_copyFrom yX1_copyFrom ∈ wsL_law := xw_2 _ (List.mem_of_getElem? (i := 43) rfl) rfl
theorem mw_2_44 : Cond.code yX1_copyFrom cX1_copyFrom 2 none ∈ wsL_law := xw_2 _ (List.mem_of_getElem? (i := 44) rfl) rfl
theorem mw_2_45 : Cond.methodLink RX7 66 yX4_valueOf ∈ wsL_law := xw_2 _ (List.mem_of_getElem? (i := 45) rfl) rfl
theorem mw_2_46 : Cond.methodLink RX7 70 yX4_change ∈ wsL_law := xw_2 _ (List.mem_of_getElem? (i := 46) rfl) rfl
theorem mw_2_47 : Cond.instanceMethod yX4_change ∈ wsL_law := xw_2 _ (List.mem_of_getElem? (i := 47) rfl) rfl
theorem mw_2_48 : Cond.selects RX4 yX4_change yX4_change ∈ wsL_law := xw_2 _ (List.mem_of_getElem? (i := 48) rfl) rfl
theorem mw_2_49 : Cond.code yX4_change cX4_change 3 none ∈ wsL_law := xw_2 _ (List.mem_of_getElem? (i := 49) rfl) rfl
theorem mw_3_198 : Cond.methodLink RL 17 yX8_set ∈ wsL_law := xw_3 _ (List.mem_of_getElem? (i := 198) rfl) rfl
theorem mw_3_199 : Cond.instanceMethod yX8_set ∈ wsL_law := xw_3 _ (List.mem_of_getElem? (i := 199) rfl) rfl
theorem mw_3_200 : Cond.selects RX8 yX8_set yX8_set ∈ wsL_law := xw_3 _ (List.mem_of_getElem? (i := 200) rfl) rfl
theorem mw_3_201 : Cond.code yX8_set cX8_set 4 (some .int) ∈ wsL_law := xw_3 _ (List.mem_of_getElem? (i := 201) rfl) rfl
theorem mw_3_202 : Cond.methodLink RX8 92 yX8_isValue ∈ wsL_law := xw_3 _ (List.mem_of_getElem? (i := 202) rfl) rfl
theorem mw_3_203 : Cond.static yX8_isValue ∈ wsL_law := xw_3 _ (List.mem_of_getElem? (i := 203) rfl) rfl
theorem mw_3_204 : Cond.code yX8_isValue cX8_isValue 2 (some .boolean) ∈ wsL_law := xw_3 _ (List.mem_of_getElem? (i := 204) rfl) rfl
theorem mw_3_143 : Cond.methodLink RX8 38 yX8_in ∈ wsL_law := xw_3 _ (List.mem_of_getElem? (i := 143) rfl) rfl
theorem mw_3_144 : Cond.static yX8_in ∈ wsL_law := xw_3 _ (List.mem_of_getElem? (i := 144) rfl) rfl
theorem mw_3_145 : Cond.code yX8_in cX8_in 3 (some .boolean) ∈ wsL_law := xw_3 _ (List.mem_of_getElem? (i := 145) rfl) rfl
theorem mw_3_150 : Cond.methodLink RX8 50 yX8_record ∈ wsL_law := xw_3 _ (List.mem_of_getElem? (i := 150) rfl) rfl
theorem mw_3_152 : Cond.instanceMethod yX8_record ∈ wsL_law := xw_3 _ (List.mem_of_getElem? (i := 152) rfl) rfl
theorem mw_0_6 : Cond.selects RX8 yX8_record yX8_record ∈ wsL_law := xw_0 _ (List.mem_of_getElem? (i := 6) rfl) rfl
theorem mw_3_153 : Cond.code yX8_record cX8_record 2 none ∈ wsL_law := xw_3 _ (List.mem_of_getElem? (i := 153) rfl) rfl
theorem mw_3_92 : Cond.fieldLink RX8 42 "MarchMetresModel" "states" "I" ∈ wsL_law := xw_3 _ (List.mem_of_getElem? (i := 92) rfl) rfl
theorem mw_3_136 : Cond.methodLink RX8 46 yX8_copyState ∈ wsL_law := xw_3 _ (List.mem_of_getElem? (i := 136) rfl) rfl
theorem mw_3_137 : Cond.static yX8_copyState ∈ wsL_law := xw_3 _ (List.mem_of_getElem? (i := 137) rfl) rfl
theorem mw_3_138 : Cond.code yX8_copyState cX8_copyState 5 none ∈ wsL_law := xw_3 _ (List.mem_of_getElem? (i := 138) rfl) rfl
theorem mw_2_50 : Cond.methodLink RL 18 yX7_read ∈ wsL_law := xw_2 _ (List.mem_of_getElem? (i := 50) rfl) rfl
theorem mw_2_51 : Cond.instanceMethod yX7_read ∈ wsL_law := xw_2 _ (List.mem_of_getElem? (i := 51) rfl) rfl
theorem mw_2_52 : Cond.selects RX7 yX7_read yX7_read ∈ wsL_law := xw_2 _ (List.mem_of_getElem? (i := 52) rfl) rfl
theorem mw_2_53 : Cond.code yX7_read cX7_read 1 (some .int) ∈ wsL_law := xw_2 _ (List.mem_of_getElem? (i := 53) rfl) rfl
theorem mw_2_54 : Cond.methodLink RX7 74 yX2_faultIndex ∈ wsL_law := xw_2 _ (List.mem_of_getElem? (i := 54) rfl) rfl
theorem mw_2_55 : Cond.instanceMethod yX2_faultIndex ∈ wsL_law := xw_2 _ (List.mem_of_getElem? (i := 55) rfl) rfl
theorem mw_2_56 : Cond.selects RX2 yX2_faultIndex yX2_faultIndex ∈ wsL_law := xw_2 _ (List.mem_of_getElem? (i := 56) rfl) rfl
theorem mw_2_57 : Cond.code yX2_faultIndex cX2_faultIndex 6 (some .int) ∈ wsL_law := xw_2 _ (List.mem_of_getElem? (i := 57) rfl) rfl
theorem mw_1_191 : Cond.fieldLink RX2 21 "MarchMetres$Pad" "length" "I" ∈ wsL_law := xw_1 _ (List.mem_of_getElem? (i := 191) rfl) rfl
theorem mw_2_58 : Cond.methodLink RX2 25 yX2_beatsMeantBy ∈ wsL_law := xw_2 _ (List.mem_of_getElem? (i := 58) rfl) rfl
theorem mw_2_59 : Cond.static yX2_beatsMeantBy ∈ wsL_law := xw_2 _ (List.mem_of_getElem? (i := 59) rfl) rfl
theorem mw_2_60 : Cond.code yX2_beatsMeantBy cX2_beatsMeantBy 1 (some .int) ∈ wsL_law := xw_2 _ (List.mem_of_getElem? (i := 60) rfl) rfl
theorem mw_2_61 : Cond.methodLink RX7 82 yX2_writeInto ∈ wsL_law := xw_2 _ (List.mem_of_getElem? (i := 61) rfl) rfl
theorem mw_2_62 : Cond.instanceMethod yX2_writeInto ∈ wsL_law := xw_2 _ (List.mem_of_getElem? (i := 62) rfl) rfl
theorem mw_2_63 : Cond.selects RX2 yX2_writeInto yX2_writeInto ∈ wsL_law := xw_2 _ (List.mem_of_getElem? (i := 63) rfl) rfl
theorem mw_2_64 : Cond.code yX2_writeInto cX2_writeInto 4 none ∈ wsL_law := xw_2 _ (List.mem_of_getElem? (i := 64) rfl) rfl
theorem mw_2_65 : Cond.methodLink RX2 29 yX5_clear ∈ wsL_law := xw_2 _ (List.mem_of_getElem? (i := 65) rfl) rfl
theorem mw_2_66 : Cond.instanceMethod yX5_clear ∈ wsL_law := xw_2 _ (List.mem_of_getElem? (i := 66) rfl) rfl
theorem mw_2_67 : Cond.selects RX5 yX5_clear yX5_clear ∈ wsL_law := xw_2 _ (List.mem_of_getElem? (i := 67) rfl) rfl
theorem mw_2_68 : Cond.code yX5_clear cX5_clear 1 none ∈ wsL_law := xw_2 _ (List.mem_of_getElem? (i := 68) rfl) rfl
theorem mw_2_69 : Cond.methodLink RX2 34 yX5_addLine ∈ wsL_law := xw_2 _ (List.mem_of_getElem? (i := 69) rfl) rfl
theorem mw_2_70 : Cond.instanceMethod yX5_addLine ∈ wsL_law := xw_2 _ (List.mem_of_getElem? (i := 70) rfl) rfl
theorem mw_2_71 : Cond.selects RX5 yX5_addLine yX5_addLine ∈ wsL_law := xw_2 _ (List.mem_of_getElem? (i := 71) rfl) rfl
theorem mw_2_72 : Cond.code yX5_addLine cX5_addLine 1 none ∈ wsL_law := xw_2 _ (List.mem_of_getElem? (i := 72) rfl) rfl
theorem mw_2_73 : Cond.methodLink RX2 37 yX5_markLastFoot ∈ wsL_law := xw_2 _ (List.mem_of_getElem? (i := 73) rfl) rfl
theorem mw_2_74 : Cond.instanceMethod yX5_markLastFoot ∈ wsL_law := xw_2 _ (List.mem_of_getElem? (i := 74) rfl) rfl
theorem mw_2_75 : Cond.selects RX5 yX5_markLastFoot yX5_markLastFoot ∈ wsL_law := xw_2 _ (List.mem_of_getElem? (i := 75) rfl) rfl
theorem mw_2_76 : Cond.code yX5_markLastFoot cX5_markLastFoot 3 none ∈ wsL_law := xw_2 _ (List.mem_of_getElem? (i := 76) rfl) rfl
theorem mw_2_77 : Cond.methodLink RX5 30 yX5_feetOf ∈ wsL_law := xw_2 _ (List.mem_of_getElem? (i := 77) rfl) rfl
theorem mw_2_78 : Cond.instanceMethod yX5_feetOf ∈ wsL_law := xw_2 _ (List.mem_of_getElem? (i := 78) rfl) rfl
theorem mw_2_79 : Cond.selects RX5 yX5_feetOf yX5_feetOf ∈ wsL_law := xw_2 _ (List.mem_of_getElem? (i := 79) rfl) rfl
theorem mw_2_80 : Cond.code yX5_feetOf cX5_feetOf 2 (some .int) ∈ wsL_law := xw_2 _ (List.mem_of_getElem? (i := 80) rfl) rfl
theorem mw_2_81 : Cond.methodLink RX5 26 yX5_hasLine ∈ wsL_law := xw_2 _ (List.mem_of_getElem? (i := 81) rfl) rfl
theorem mw_2_82 : Cond.instanceMethod yX5_hasLine ∈ wsL_law := xw_2 _ (List.mem_of_getElem? (i := 82) rfl) rfl
theorem mw_2_83 : Cond.selects RX5 yX5_hasLine yX5_hasLine ∈ wsL_law := xw_2 _ (List.mem_of_getElem? (i := 83) rfl) rfl
theorem mw_2_84 : Cond.code yX5_hasLine cX5_hasLine 2 (some .boolean) ∈ wsL_law := xw_2 _ (List.mem_of_getElem? (i := 84) rfl) rfl
theorem mw_2_85 : Cond.methodLink RX5 34 yX5_hasFoot ∈ wsL_law := xw_2 _ (List.mem_of_getElem? (i := 85) rfl) rfl
theorem mw_2_86 : Cond.instanceMethod yX5_hasFoot ∈ wsL_law := xw_2 _ (List.mem_of_getElem? (i := 86) rfl) rfl
theorem mw_2_87 : Cond.selects RX5 yX5_hasFoot yX5_hasFoot ∈ wsL_law := xw_2 _ (List.mem_of_getElem? (i := 87) rfl) rfl
theorem mw_2_88 : Cond.code yX5_hasFoot cX5_hasFoot 3 (some .boolean) ∈ wsL_law := xw_2 _ (List.mem_of_getElem? (i := 88) rfl) rfl
theorem mw_2_89 : Cond.methodLink RX2 40 yX5_addFoot ∈ wsL_law := xw_2 _ (List.mem_of_getElem? (i := 89) rfl) rfl
theorem mw_2_90 : Cond.instanceMethod yX5_addFoot ∈ wsL_law := xw_2 _ (List.mem_of_getElem? (i := 90) rfl) rfl
theorem mw_2_91 : Cond.selects RX5 yX5_addFoot yX5_addFoot ∈ wsL_law := xw_2 _ (List.mem_of_getElem? (i := 91) rfl) rfl
theorem mw_2_92 : Cond.code yX5_addFoot cX5_addFoot 4 none ∈ wsL_law := xw_2 _ (List.mem_of_getElem? (i := 92) rfl) rfl
theorem mw_2_93 : Cond.methodLink RX7 86 yX2_empty ∈ wsL_law := xw_2 _ (List.mem_of_getElem? (i := 93) rfl) rfl
theorem mw_2_94 : Cond.instanceMethod yX2_empty ∈ wsL_law := xw_2 _ (List.mem_of_getElem? (i := 94) rfl) rfl
theorem mw_2_95 : Cond.selects RX2 yX2_empty yX2_empty ∈ wsL_law := xw_2 _ (List.mem_of_getElem? (i := 95) rfl) rfl
theorem mw_2_96 : Cond.code yX2_empty cX2_empty 1 none ∈ wsL_law := xw_2 _ (List.mem_of_getElem? (i := 96) rfl) rfl
theorem mw_4_6 : Cond.methodLink RL 22 yX8_read ∈ wsL_law := xw_4 _ (List.mem_of_getElem? (i := 6) rfl) rfl
theorem mw_4_7 : Cond.instanceMethod yX8_read ∈ wsL_law := xw_4 _ (List.mem_of_getElem? (i := 7) rfl) rfl
theorem mw_4_8 : Cond.selects RX8 yX8_read yX8_read ∈ wsL_law := xw_4 _ (List.mem_of_getElem? (i := 8) rfl) rfl
theorem mw_4_9 : Cond.code yX8_read cX8_read 3 (some .int) ∈ wsL_law := xw_4 _ (List.mem_of_getElem? (i := 9) rfl) rfl
theorem mw_3_102 : Cond.fieldLink RX8 110 "MarchMetresModel" "toldLines" "I" ∈ wsL_law := xw_3 _ (List.mem_of_getElem? (i := 102) rfl) rfl
theorem mw_3_96 : Cond.fieldLink RX8 101 "MarchMetresModel" "typed" "I" ∈ wsL_law := xw_3 _ (List.mem_of_getElem? (i := 96) rfl) rfl
theorem mw_3_230 : Cond.methodLink RX8 119 yX8_readPad ∈ wsL_law := xw_3 _ (List.mem_of_getElem? (i := 230) rfl) rfl
theorem mw_3_232 : Cond.instanceMethod yX8_readPad ∈ wsL_law := xw_3 _ (List.mem_of_getElem? (i := 232) rfl) rfl
theorem mw_0_17 : Cond.selects RX8 yX8_readPad yX8_readPad ∈ wsL_law := xw_0 _ (List.mem_of_getElem? (i := 17) rfl) rfl
theorem mw_3_233 : Cond.code yX8_readPad cX8_readPad 2 (some .boolean) ∈ wsL_law := xw_3 _ (List.mem_of_getElem? (i := 233) rfl) rfl
theorem mw_3_99 : Cond.fieldLink RX8 104 "MarchMetresModel" "spot" "I" ∈ wsL_law := xw_3 _ (List.mem_of_getElem? (i := 99) rfl) rfl
theorem mw_3_234 : Cond.methodLink RX8 116 yX8_readLine ∈ wsL_law := xw_3 _ (List.mem_of_getElem? (i := 234) rfl) rfl
theorem mw_3_236 : Cond.instanceMethod yX8_readLine ∈ wsL_law := xw_3 _ (List.mem_of_getElem? (i := 236) rfl) rfl
theorem mw_0_18 : Cond.selects RX8 yX8_readLine yX8_readLine ∈ wsL_law := xw_0 _ (List.mem_of_getElem? (i := 18) rfl) rfl
theorem mw_3_237 : Cond.code yX8_readLine cX8_readLine 2 (some .boolean) ∈ wsL_law := xw_3 _ (List.mem_of_getElem? (i := 237) rfl) rfl
theorem mw_3_238 : Cond.methodLink RX8 113 yX8_readFoot ∈ wsL_law := xw_3 _ (List.mem_of_getElem? (i := 238) rfl) rfl
theorem mw_4_0 : Cond.instanceMethod yX8_readFoot ∈ wsL_law := xw_4 _ (List.mem_of_getElem? (i := 0) rfl) rfl
theorem mw_0_19 : Cond.selects RX8 yX8_readFoot yX8_readFoot ∈ wsL_law := xw_0 _ (List.mem_of_getElem? (i := 19) rfl) rfl
theorem mw_4_1 : Cond.code yX8_readFoot cX8_readFoot 3 (some .boolean) ∈ wsL_law := xw_4 _ (List.mem_of_getElem? (i := 1) rfl) rfl
theorem mw_4_2 : Cond.methodLink RX8 107 yX8_takes ∈ wsL_law := xw_4 _ (List.mem_of_getElem? (i := 2) rfl) rfl
theorem mw_4_4 : Cond.instanceMethod yX8_takes ∈ wsL_law := xw_4 _ (List.mem_of_getElem? (i := 4) rfl) rfl
theorem mw_0_20 : Cond.selects RX8 yX8_takes yX8_takes ∈ wsL_law := xw_0 _ (List.mem_of_getElem? (i := 20) rfl) rfl
theorem mw_4_5 : Cond.code yX8_takes cX8_takes 3 (some .boolean) ∈ wsL_law := xw_4 _ (List.mem_of_getElem? (i := 5) rfl) rfl
theorem mw_2_97 : Cond.methodLink RL 23 yX7_pave ∈ wsL_law := xw_2 _ (List.mem_of_getElem? (i := 97) rfl) rfl
theorem mw_2_98 : Cond.instanceMethod yX7_pave ∈ wsL_law := xw_2 _ (List.mem_of_getElem? (i := 98) rfl) rfl
theorem mw_2_99 : Cond.selects RX7 yX7_pave yX7_pave ∈ wsL_law := xw_2 _ (List.mem_of_getElem? (i := 99) rfl) rfl
theorem mw_2_100 : Cond.code yX7_pave cX7_pave 4 (some .int) ∈ wsL_law := xw_2 _ (List.mem_of_getElem? (i := 100) rfl) rfl
theorem mw_2_101 : Cond.methodLink RX7 104 yX3_add ∈ wsL_law := xw_2 _ (List.mem_of_getElem? (i := 101) rfl) rfl
theorem mw_2_102 : Cond.instanceMethod yX3_add ∈ wsL_law := xw_2 _ (List.mem_of_getElem? (i := 102) rfl) rfl
theorem mw_2_103 : Cond.selects RX3 yX3_add yX3_add ∈ wsL_law := xw_2 _ (List.mem_of_getElem? (i := 103) rfl) rfl
theorem mw_2_104 : Cond.code yX3_add cX3_add 4 none ∈ wsL_law := xw_2 _ (List.mem_of_getElem? (i := 104) rfl) rfl
theorem mw_3_205 : Cond.methodLink RL 27 yX8_pave ∈ wsL_law := xw_3 _ (List.mem_of_getElem? (i := 205) rfl) rfl
theorem mw_3_206 : Cond.instanceMethod yX8_pave ∈ wsL_law := xw_3 _ (List.mem_of_getElem? (i := 206) rfl) rfl
theorem mw_3_207 : Cond.selects RX8 yX8_pave yX8_pave ∈ wsL_law := xw_3 _ (List.mem_of_getElem? (i := 207) rfl) rfl
theorem mw_3_208 : Cond.code yX8_pave cX8_pave 5 (some .int) ∈ wsL_law := xw_3 _ (List.mem_of_getElem? (i := 208) rfl) rfl
theorem mw_2_105 : Cond.methodLink RL 28 yX7_tear ∈ wsL_law := xw_2 _ (List.mem_of_getElem? (i := 105) rfl) rfl
theorem mw_2_106 : Cond.instanceMethod yX7_tear ∈ wsL_law := xw_2 _ (List.mem_of_getElem? (i := 106) rfl) rfl
theorem mw_2_107 : Cond.selects RX7 yX7_tear yX7_tear ∈ wsL_law := xw_2 _ (List.mem_of_getElem? (i := 107) rfl) rfl
theorem mw_2_108 : Cond.code yX7_tear cX7_tear 3 (some .int) ∈ wsL_law := xw_2 _ (List.mem_of_getElem? (i := 108) rfl) rfl
theorem mw_2_109 : Cond.methodLink RX7 108 yX3_has ∈ wsL_law := xw_2 _ (List.mem_of_getElem? (i := 109) rfl) rfl
theorem mw_2_110 : Cond.instanceMethod yX3_has ∈ wsL_law := xw_2 _ (List.mem_of_getElem? (i := 110) rfl) rfl
theorem mw_2_111 : Cond.selects RX3 yX3_has yX3_has ∈ wsL_law := xw_2 _ (List.mem_of_getElem? (i := 111) rfl) rfl
theorem mw_2_112 : Cond.code yX3_has cX3_has 2 (some .boolean) ∈ wsL_law := xw_2 _ (List.mem_of_getElem? (i := 112) rfl) rfl
theorem mw_2_113 : Cond.methodLink RX7 112 yX3_stepsOf ∈ wsL_law := xw_2 _ (List.mem_of_getElem? (i := 113) rfl) rfl
theorem mw_2_114 : Cond.instanceMethod yX3_stepsOf ∈ wsL_law := xw_2 _ (List.mem_of_getElem? (i := 114) rfl) rfl
theorem mw_2_115 : Cond.selects RX3 yX3_stepsOf yX3_stepsOf ∈ wsL_law := xw_2 _ (List.mem_of_getElem? (i := 115) rfl) rfl
theorem mw_2_116 : Cond.code yX3_stepsOf cX3_stepsOf 2 (some .int) ∈ wsL_law := xw_2 _ (List.mem_of_getElem? (i := 116) rfl) rfl
theorem mw_2_117 : Cond.methodLink RX3 26 yX3_has ∈ wsL_law := xw_2 _ (List.mem_of_getElem? (i := 117) rfl) rfl
theorem mw_2_118 : Cond.methodLink RX7 115 yX3_remove ∈ wsL_law := xw_2 _ (List.mem_of_getElem? (i := 118) rfl) rfl
theorem mw_2_119 : Cond.instanceMethod yX3_remove ∈ wsL_law := xw_2 _ (List.mem_of_getElem? (i := 119) rfl) rfl
theorem mw_2_120 : Cond.selects RX3 yX3_remove yX3_remove ∈ wsL_law := xw_2 _ (List.mem_of_getElem? (i := 120) rfl) rfl
theorem mw_2_121 : Cond.code yX3_remove cX3_remove 3 none ∈ wsL_law := xw_2 _ (List.mem_of_getElem? (i := 121) rfl) rfl
theorem mw_3_209 : Cond.methodLink RL 32 yX8_tear ∈ wsL_law := xw_3 _ (List.mem_of_getElem? (i := 209) rfl) rfl
theorem mw_3_210 : Cond.instanceMethod yX8_tear ∈ wsL_law := xw_3 _ (List.mem_of_getElem? (i := 210) rfl) rfl
theorem mw_3_211 : Cond.selects RX8 yX8_tear yX8_tear ∈ wsL_law := xw_3 _ (List.mem_of_getElem? (i := 211) rfl) rfl
theorem mw_3_212 : Cond.code yX8_tear cX8_tear 4 (some .int) ∈ wsL_law := xw_3 _ (List.mem_of_getElem? (i := 212) rfl) rfl
theorem mw_3_213 : Cond.methodLink RX8 95 yX8_isStretch ∈ wsL_law := xw_3 _ (List.mem_of_getElem? (i := 213) rfl) rfl
theorem mw_3_215 : Cond.instanceMethod yX8_isStretch ∈ wsL_law := xw_3 _ (List.mem_of_getElem? (i := 215) rfl) rfl
theorem mw_0_16 : Cond.selects RX8 yX8_isStretch yX8_isStretch ∈ wsL_law := xw_0 _ (List.mem_of_getElem? (i := 16) rfl) rfl
theorem mw_3_216 : Cond.code yX8_isStretch cX8_isStretch 2 (some .boolean) ∈ wsL_law := xw_3 _ (List.mem_of_getElem? (i := 216) rfl) rfl
theorem mw_3_174 : Cond.methodLink RX8 53 yX8_ofStretch ∈ wsL_law := xw_3 _ (List.mem_of_getElem? (i := 174) rfl) rfl
theorem mw_3_176 : Cond.instanceMethod yX8_ofStretch ∈ wsL_law := xw_3 _ (List.mem_of_getElem? (i := 176) rfl) rfl
theorem mw_0_11 : Cond.selects RX8 yX8_ofStretch yX8_ofStretch ∈ wsL_law := xw_0 _ (List.mem_of_getElem? (i := 11) rfl) rfl
theorem mw_3_177 : Cond.code yX8_ofStretch cX8_ofStretch 3 (some .int) ∈ wsL_law := xw_3 _ (List.mem_of_getElem? (i := 177) rfl) rfl
theorem mw_2_122 : Cond.methodLink RL 33 yX7_begin ∈ wsL_law := xw_2 _ (List.mem_of_getElem? (i := 122) rfl) rfl
theorem mw_2_123 : Cond.instanceMethod yX7_begin ∈ wsL_law := xw_2 _ (List.mem_of_getElem? (i := 123) rfl) rfl
theorem mw_2_124 : Cond.selects RX7 yX7_begin yX7_begin ∈ wsL_law := xw_2 _ (List.mem_of_getElem? (i := 124) rfl) rfl
theorem mw_2_125 : Cond.code yX7_begin cX7_begin 2 (some .int) ∈ wsL_law := xw_2 _ (List.mem_of_getElem? (i := 125) rfl) rfl
theorem mw_3_194 : Cond.methodLink RL 36 yX8_begin ∈ wsL_law := xw_3 _ (List.mem_of_getElem? (i := 194) rfl) rfl
theorem mw_3_195 : Cond.instanceMethod yX8_begin ∈ wsL_law := xw_3 _ (List.mem_of_getElem? (i := 195) rfl) rfl
theorem mw_3_196 : Cond.selects RX8 yX8_begin yX8_begin ∈ wsL_law := xw_3 _ (List.mem_of_getElem? (i := 196) rfl) rfl
theorem mw_3_197 : Cond.code yX8_begin cX8_begin 2 (some .int) ∈ wsL_law := xw_3 _ (List.mem_of_getElem? (i := 197) rfl) rfl
theorem mw_2_126 : Cond.methodLink RL 37 yX7_march ∈ wsL_law := xw_2 _ (List.mem_of_getElem? (i := 126) rfl) rfl
theorem mw_2_127 : Cond.instanceMethod yX7_march ∈ wsL_law := xw_2 _ (List.mem_of_getElem? (i := 127) rfl) rfl
theorem mw_2_128 : Cond.selects RX7 yX7_march yX7_march ∈ wsL_law := xw_2 _ (List.mem_of_getElem? (i := 128) rfl) rfl
theorem mw_2_129 : Cond.code yX7_march cX7_march 3 (some .int) ∈ wsL_law := xw_2 _ (List.mem_of_getElem? (i := 129) rfl) rfl
theorem mw_2_130 : Cond.methodLink RX7 125 yX7_isReady ∈ wsL_law := xw_2 _ (List.mem_of_getElem? (i := 130) rfl) rfl
theorem mw_2_132 : Cond.instanceMethod yX7_isReady ∈ wsL_law := xw_2 _ (List.mem_of_getElem? (i := 132) rfl) rfl
theorem mw_0_2 : Cond.selects RX7 yX7_isReady yX7_isReady ∈ wsL_law := xw_0 _ (List.mem_of_getElem? (i := 2) rfl) rfl
theorem mw_2_133 : Cond.code yX7_isReady cX7_isReady 1 (some .boolean) ∈ wsL_law := xw_2 _ (List.mem_of_getElem? (i := 133) rfl) rfl
theorem mw_2_134 : Cond.methodLink RX7 129 yX1_isAtEndOf ∈ wsL_law := xw_2 _ (List.mem_of_getElem? (i := 134) rfl) rfl
theorem mw_2_135 : Cond.instanceMethod yX1_isAtEndOf ∈ wsL_law := xw_2 _ (List.mem_of_getElem? (i := 135) rfl) rfl
theorem mw_2_136 : Cond.selects RX1 yX1_isAtEndOf yX1_isAtEndOf ∈ wsL_law := xw_2 _ (List.mem_of_getElem? (i := 136) rfl) rfl
theorem mw_2_137 : Cond.code yX1_isAtEndOf cX1_isAtEndOf 2 (some .boolean) ∈ wsL_law := xw_2 _ (List.mem_of_getElem? (i := 137) rfl) rfl
theorem mw_2_138 : Cond.methodLink RX7 133 yX1_goUntilWalked ∈ wsL_law := xw_2 _ (List.mem_of_getElem? (i := 138) rfl) rfl
theorem mw_2_139 : Cond.instanceMethod yX1_goUntilWalked ∈ wsL_law := xw_2 _ (List.mem_of_getElem? (i := 139) rfl) rfl
theorem mw_2_140 : Cond.selects RX1 yX1_goUntilWalked yX1_goUntilWalked ∈ wsL_law := xw_2 _ (List.mem_of_getElem? (i := 140) rfl) rfl
theorem mw_2_141 : Cond.code yX1_goUntilWalked cX1_goUntilWalked 6 none ∈ wsL_law := xw_2 _ (List.mem_of_getElem? (i := 141) rfl) rfl
theorem mw_2_142 : Cond.methodLink RX1 62 yX1_isAtEndOf ∈ wsL_law := xw_2 _ (List.mem_of_getElem? (i := 142) rfl) rfl
theorem mw_2_143 : Cond.methodLink RX1 66 yX1_goOn ∈ wsL_law := xw_2 _ (List.mem_of_getElem? (i := 143) rfl) rfl
theorem mw_2_144 : Cond.instanceMethod yX1_goOn ∈ wsL_law := xw_2 _ (List.mem_of_getElem? (i := 144) rfl) rfl
theorem mw_2_145 : Cond.selects RX1 yX1_goOn yX1_goOn ∈ wsL_law := xw_2 _ (List.mem_of_getElem? (i := 145) rfl) rfl
theorem mw_2_146 : Cond.code yX1_goOn cX1_goOn 6 none ∈ wsL_law := xw_2 _ (List.mem_of_getElem? (i := 146) rfl) rfl
theorem mw_2_151 : Cond.methodLink RX1 74 Lib.Math.max.name ∈ wsL_law := xw_2 _ (List.mem_of_getElem? (i := 151) rfl) rfl
theorem mw_2_152 : Cond.static Lib.Math.max.name ∈ wsL_law := xw_2 _ (List.mem_of_getElem? (i := 152) rfl) rfl
theorem mw_1_10b : Cond.initialized "java/lang/Math" ∈ wsL_law := xw_1 _ (List.mem_of_getElem? (i := 10) rfl) rfl
theorem mw_2_153 : Cond.code Lib.Math.max.name Lib.Math.max.code 2 (some .int) ∈ wsL_law := xw_2 _ (List.mem_of_getElem? (i := 153) rfl) rfl
theorem mw_2_155 : Cond.methodLink RX1 85 Lib.Math.min.name ∈ wsL_law := xw_2 _ (List.mem_of_getElem? (i := 155) rfl) rfl
theorem mw_2_156 : Cond.static Lib.Math.min.name ∈ wsL_law := xw_2 _ (List.mem_of_getElem? (i := 156) rfl) rfl
theorem mw_2_157 : Cond.code Lib.Math.min.name Lib.Math.min.code 2 (some .int) ∈ wsL_law := xw_2 _ (List.mem_of_getElem? (i := 157) rfl) rfl
theorem mw_2_147 : Cond.methodLink RX1 70 yX3_slopeOf ∈ wsL_law := xw_2 _ (List.mem_of_getElem? (i := 147) rfl) rfl
theorem mw_2_148 : Cond.instanceMethod yX3_slopeOf ∈ wsL_law := xw_2 _ (List.mem_of_getElem? (i := 148) rfl) rfl
theorem mw_2_149 : Cond.selects RX3 yX3_slopeOf yX3_slopeOf ∈ wsL_law := xw_2 _ (List.mem_of_getElem? (i := 149) rfl) rfl
theorem mw_2_150 : Cond.code yX3_slopeOf cX3_slopeOf 2 (some .int) ∈ wsL_law := xw_2 _ (List.mem_of_getElem? (i := 150) rfl) rfl
theorem mw_2_154 : Cond.methodLink RX1 80 yX4_valueOf ∈ wsL_law := xw_2 _ (List.mem_of_getElem? (i := 154) rfl) rfl
theorem mw_2_158 : Cond.methodLink RX1 88 yX1_stepOn ∈ wsL_law := xw_2 _ (List.mem_of_getElem? (i := 158) rfl) rfl
theorem mw_2_160 : Cond.instanceMethod yX1_stepOn ∈ wsL_law := xw_2 _ (List.mem_of_getElem? (i := 160) rfl) rfl
theorem mw_0_3 : Cond.selects RX1 yX1_stepOn yX1_stepOn ∈ wsL_law := xw_0 _ (List.mem_of_getElem? (i := 3) rfl) rfl
theorem mw_2_161 : Cond.code yX1_stepOn cX1_stepOn 3 none ∈ wsL_law := xw_2 _ (List.mem_of_getElem? (i := 161) rfl) rfl
theorem mw_2_162 : Cond.methodLink RX1 96 yX3_isMuddy ∈ wsL_law := xw_2 _ (List.mem_of_getElem? (i := 162) rfl) rfl
theorem mw_2_163 : Cond.instanceMethod yX3_isMuddy ∈ wsL_law := xw_2 _ (List.mem_of_getElem? (i := 163) rfl) rfl
theorem mw_2_164 : Cond.selects RX3 yX3_isMuddy yX3_isMuddy ∈ wsL_law := xw_2 _ (List.mem_of_getElem? (i := 164) rfl) rfl
theorem mw_2_165 : Cond.code yX3_isMuddy cX3_isMuddy 2 (some .boolean) ∈ wsL_law := xw_2 _ (List.mem_of_getElem? (i := 165) rfl) rfl
theorem mw_2_166 : Cond.methodLink RX1 100 yX3_stepsOf ∈ wsL_law := xw_2 _ (List.mem_of_getElem? (i := 166) rfl) rfl
theorem mw_2_167 : Cond.methodLink RX1 92 yX1_singOn ∈ wsL_law := xw_2 _ (List.mem_of_getElem? (i := 167) rfl) rfl
theorem mw_2_169 : Cond.instanceMethod yX1_singOn ∈ wsL_law := xw_2 _ (List.mem_of_getElem? (i := 169) rfl) rfl
theorem mw_0_4 : Cond.selects RX1 yX1_singOn yX1_singOn ∈ wsL_law := xw_0 _ (List.mem_of_getElem? (i := 4) rfl) rfl
theorem mw_2_170 : Cond.code yX1_singOn cX1_singOn 3 none ∈ wsL_law := xw_2 _ (List.mem_of_getElem? (i := 170) rfl) rfl
theorem mw_2_171 : Cond.methodLink RX1 103 yX5_beatsOf ∈ wsL_law := xw_2 _ (List.mem_of_getElem? (i := 171) rfl) rfl
theorem mw_2_172 : Cond.instanceMethod yX5_beatsOf ∈ wsL_law := xw_2 _ (List.mem_of_getElem? (i := 172) rfl) rfl
theorem mw_2_173 : Cond.selects RX5 yX5_beatsOf yX5_beatsOf ∈ wsL_law := xw_2 _ (List.mem_of_getElem? (i := 173) rfl) rfl
theorem mw_2_174 : Cond.code yX5_beatsOf cX5_beatsOf 3 (some .int) ∈ wsL_law := xw_2 _ (List.mem_of_getElem? (i := 174) rfl) rfl
theorem mw_2_175 : Cond.methodLink RX1 108 yX5_isMarked ∈ wsL_law := xw_2 _ (List.mem_of_getElem? (i := 175) rfl) rfl
theorem mw_2_176 : Cond.instanceMethod yX5_isMarked ∈ wsL_law := xw_2 _ (List.mem_of_getElem? (i := 176) rfl) rfl
theorem mw_2_177 : Cond.selects RX5 yX5_isMarked yX5_isMarked ∈ wsL_law := xw_2 _ (List.mem_of_getElem? (i := 177) rfl) rfl
theorem mw_2_178 : Cond.code yX5_isMarked cX5_isMarked 3 (some .boolean) ∈ wsL_law := xw_2 _ (List.mem_of_getElem? (i := 178) rfl) rfl
theorem mw_2_179 : Cond.methodLink RX1 112 yX5_feetOf ∈ wsL_law := xw_2 _ (List.mem_of_getElem? (i := 179) rfl) rfl
theorem mw_3_154 : Cond.methodLink RL 40 yX8_march ∈ wsL_law := xw_3 _ (List.mem_of_getElem? (i := 154) rfl) rfl
theorem mw_3_155 : Cond.instanceMethod yX8_march ∈ wsL_law := xw_3 _ (List.mem_of_getElem? (i := 155) rfl) rfl
theorem mw_3_156 : Cond.selects RX8 yX8_march yX8_march ∈ wsL_law := xw_3 _ (List.mem_of_getElem? (i := 156) rfl) rfl
theorem mw_3_157 : Cond.code yX8_march cX8_march 2 (some .int) ∈ wsL_law := xw_3 _ (List.mem_of_getElem? (i := 157) rfl) rfl
theorem mw_3_158 : Cond.methodLink RX8 84 yX8_canMarch ∈ wsL_law := xw_3 _ (List.mem_of_getElem? (i := 158) rfl) rfl
theorem mw_3_160 : Cond.instanceMethod yX8_canMarch ∈ wsL_law := xw_3 _ (List.mem_of_getElem? (i := 160) rfl) rfl
theorem mw_0_7 : Cond.selects RX8 yX8_canMarch yX8_canMarch ∈ wsL_law := xw_0 _ (List.mem_of_getElem? (i := 7) rfl) rfl
theorem mw_3_161 : Cond.code yX8_canMarch cX8_canMarch 1 (some .boolean) ∈ wsL_law := xw_3 _ (List.mem_of_getElem? (i := 161) rfl) rfl
theorem mw_3_162 : Cond.methodLink RX8 88 yX8_marchNow ∈ wsL_law := xw_3 _ (List.mem_of_getElem? (i := 162) rfl) rfl
theorem mw_3_164 : Cond.instanceMethod yX8_marchNow ∈ wsL_law := xw_3 _ (List.mem_of_getElem? (i := 164) rfl) rfl
theorem mw_0_8 : Cond.selects RX8 yX8_marchNow yX8_marchNow ∈ wsL_law := xw_0 _ (List.mem_of_getElem? (i := 8) rfl) rfl
theorem mw_3_165 : Cond.code yX8_marchNow cX8_marchNow 3 (some .int) ∈ wsL_law := xw_3 _ (List.mem_of_getElem? (i := 165) rfl) rfl
theorem mw_3_166 : Cond.methodLink RX8 81 yX8_beat ∈ wsL_law := xw_3 _ (List.mem_of_getElem? (i := 166) rfl) rfl
theorem mw_3_168 : Cond.instanceMethod yX8_beat ∈ wsL_law := xw_3 _ (List.mem_of_getElem? (i := 168) rfl) rfl
theorem mw_0_9 : Cond.selects RX8 yX8_beat yX8_beat ∈ wsL_law := xw_0 _ (List.mem_of_getElem? (i := 9) rfl) rfl
theorem mw_3_169 : Cond.code yX8_beat cX8_beat 2 none ∈ wsL_law := xw_3 _ (List.mem_of_getElem? (i := 169) rfl) rfl
theorem mw_3_97 : Cond.fieldLink RX8 68 "MarchMetresModel" "songEnded" "Z" ∈ wsL_law := xw_3 _ (List.mem_of_getElem? (i := 97) rfl) rfl
theorem mw_3_98 : Cond.fieldLink RX8 57 "MarchMetresModel" "stretchEnded" "Z" ∈ wsL_law := xw_3 _ (List.mem_of_getElem? (i := 98) rfl) rfl
theorem mw_3_170 : Cond.methodLink RX8 71 yX8_climb ∈ wsL_law := xw_3 _ (List.mem_of_getElem? (i := 170) rfl) rfl
theorem mw_3_172 : Cond.instanceMethod yX8_climb ∈ wsL_law := xw_3 _ (List.mem_of_getElem? (i := 172) rfl) rfl
theorem mw_0_10 : Cond.selects RX8 yX8_climb yX8_climb ∈ wsL_law := xw_0 _ (List.mem_of_getElem? (i := 10) rfl) rfl
theorem mw_3_173 : Cond.code yX8_climb cX8_climb 2 (some .int) ∈ wsL_law := xw_3 _ (List.mem_of_getElem? (i := 173) rfl) rfl
theorem mw_3_178 : Cond.methodLink RX8 75 yX8_step ∈ wsL_law := xw_3 _ (List.mem_of_getElem? (i := 178) rfl) rfl
theorem mw_3_180 : Cond.instanceMethod yX8_step ∈ wsL_law := xw_3 _ (List.mem_of_getElem? (i := 180) rfl) rfl
theorem mw_0_12 : Cond.selects RX8 yX8_step yX8_step ∈ wsL_law := xw_0 _ (List.mem_of_getElem? (i := 12) rfl) rfl
theorem mw_3_181 : Cond.code yX8_step cX8_step 1 none ∈ wsL_law := xw_3 _ (List.mem_of_getElem? (i := 181) rfl) rfl
theorem mw_3_182 : Cond.methodLink RX8 78 yX8_goOn ∈ wsL_law := xw_3 _ (List.mem_of_getElem? (i := 182) rfl) rfl
theorem mw_3_184 : Cond.instanceMethod yX8_goOn ∈ wsL_law := xw_3 _ (List.mem_of_getElem? (i := 184) rfl) rfl
theorem mw_0_13 : Cond.selects RX8 yX8_goOn yX8_goOn ∈ wsL_law := xw_0 _ (List.mem_of_getElem? (i := 13) rfl) rfl
theorem mw_3_185 : Cond.code yX8_goOn cX8_goOn 3 none ∈ wsL_law := xw_3 _ (List.mem_of_getElem? (i := 185) rfl) rfl
theorem mw_3_186 : Cond.methodLink RX8 61 yX8_beatsOf ∈ wsL_law := xw_3 _ (List.mem_of_getElem? (i := 186) rfl) rfl
theorem mw_3_188 : Cond.instanceMethod yX8_beatsOf ∈ wsL_law := xw_3 _ (List.mem_of_getElem? (i := 188) rfl) rfl
theorem mw_0_14 : Cond.selects RX8 yX8_beatsOf yX8_beatsOf ∈ wsL_law := xw_0 _ (List.mem_of_getElem? (i := 14) rfl) rfl
theorem mw_3_189 : Cond.code yX8_beatsOf cX8_beatsOf 3 (some .int) ∈ wsL_law := xw_3 _ (List.mem_of_getElem? (i := 189) rfl) rfl
theorem mw_3_190 : Cond.methodLink RX8 64 yX8_hasMark ∈ wsL_law := xw_3 _ (List.mem_of_getElem? (i := 190) rfl) rfl
theorem mw_3_192 : Cond.instanceMethod yX8_hasMark ∈ wsL_law := xw_3 _ (List.mem_of_getElem? (i := 192) rfl) rfl
theorem mw_0_15 : Cond.selects RX8 yX8_hasMark yX8_hasMark ∈ wsL_law := xw_0 _ (List.mem_of_getElem? (i := 15) rfl) rfl
theorem mw_3_193 : Cond.code yX8_hasMark cX8_hasMark 3 (some .boolean) ∈ wsL_law := xw_3 _ (List.mem_of_getElem? (i := 193) rfl) rfl
theorem mw_2_180 : Cond.methodLink RL 41 yX7_line ∈ wsL_law := xw_2 _ (List.mem_of_getElem? (i := 180) rfl) rfl
theorem mw_2_181 : Cond.instanceMethod yX7_line ∈ wsL_law := xw_2 _ (List.mem_of_getElem? (i := 181) rfl) rfl
theorem mw_2_182 : Cond.selects RX7 yX7_line yX7_line ∈ wsL_law := xw_2 _ (List.mem_of_getElem? (i := 182) rfl) rfl
theorem mw_2_183 : Cond.code yX7_line cX7_line 5 (some .int) ∈ wsL_law := xw_2 _ (List.mem_of_getElem? (i := 183) rfl) rfl
theorem mw_2_184 : Cond.methodLink RX7 137 yX5_hasLine ∈ wsL_law := xw_2 _ (List.mem_of_getElem? (i := 184) rfl) rfl
theorem mw_2_185 : Cond.methodLink RX7 140 yX5_beatsOfLine ∈ wsL_law := xw_2 _ (List.mem_of_getElem? (i := 185) rfl) rfl
theorem mw_2_186 : Cond.instanceMethod yX5_beatsOfLine ∈ wsL_law := xw_2 _ (List.mem_of_getElem? (i := 186) rfl) rfl
theorem mw_2_187 : Cond.selects RX5 yX5_beatsOfLine yX5_beatsOfLine ∈ wsL_law := xw_2 _ (List.mem_of_getElem? (i := 187) rfl) rfl
theorem mw_2_188 : Cond.code yX5_beatsOfLine cX5_beatsOfLine 4 (some .int) ∈ wsL_law := xw_2 _ (List.mem_of_getElem? (i := 188) rfl) rfl
theorem mw_2_189 : Cond.methodLink RX5 38 yX5_beatsOf ∈ wsL_law := xw_2 _ (List.mem_of_getElem? (i := 189) rfl) rfl
theorem mw_2_190 : Cond.methodLink RX7 143 yX5_marksOfLine ∈ wsL_law := xw_2 _ (List.mem_of_getElem? (i := 190) rfl) rfl
theorem mw_2_191 : Cond.instanceMethod yX5_marksOfLine ∈ wsL_law := xw_2 _ (List.mem_of_getElem? (i := 191) rfl) rfl
theorem mw_2_192 : Cond.selects RX5 yX5_marksOfLine yX5_marksOfLine ∈ wsL_law := xw_2 _ (List.mem_of_getElem? (i := 192) rfl) rfl
theorem mw_2_193 : Cond.code yX5_marksOfLine cX5_marksOfLine 4 (some .int) ∈ wsL_law := xw_2 _ (List.mem_of_getElem? (i := 193) rfl) rfl
theorem mw_2_194 : Cond.methodLink RX5 42 yX5_isMarked ∈ wsL_law := xw_2 _ (List.mem_of_getElem? (i := 194) rfl) rfl
theorem mw_2_195 : Cond.methodLink RX7 146 yX5_feetOf ∈ wsL_law := xw_2 _ (List.mem_of_getElem? (i := 195) rfl) rfl
theorem mw_4_10 : Cond.methodLink RL 44 yX8_line ∈ wsL_law := xw_4 _ (List.mem_of_getElem? (i := 10) rfl) rfl
theorem mw_4_11 : Cond.instanceMethod yX8_line ∈ wsL_law := xw_4 _ (List.mem_of_getElem? (i := 11) rfl) rfl
theorem mw_4_12 : Cond.selects RX8 yX8_line yX8_line ∈ wsL_law := xw_4 _ (List.mem_of_getElem? (i := 12) rfl) rfl
theorem mw_4_13 : Cond.code yX8_line cX8_line 3 (some .int) ∈ wsL_law := xw_4 _ (List.mem_of_getElem? (i := 13) rfl) rfl
theorem mw_4_14 : Cond.methodLink RX8 122 yX8_isLine ∈ wsL_law := xw_4 _ (List.mem_of_getElem? (i := 14) rfl) rfl
theorem mw_4_16 : Cond.instanceMethod yX8_isLine ∈ wsL_law := xw_4 _ (List.mem_of_getElem? (i := 16) rfl) rfl
theorem mw_0_21 : Cond.selects RX8 yX8_isLine yX8_isLine ∈ wsL_law := xw_0 _ (List.mem_of_getElem? (i := 21) rfl) rfl
theorem mw_4_17 : Cond.code yX8_isLine cX8_isLine 2 (some .boolean) ∈ wsL_law := xw_4 _ (List.mem_of_getElem? (i := 17) rfl) rfl
theorem mw_4_18 : Cond.methodLink RX8 125 yX8_sungIn ∈ wsL_law := xw_4 _ (List.mem_of_getElem? (i := 18) rfl) rfl
theorem mw_4_20 : Cond.instanceMethod yX8_sungIn ∈ wsL_law := xw_4 _ (List.mem_of_getElem? (i := 20) rfl) rfl
theorem mw_0_22 : Cond.selects RX8 yX8_sungIn yX8_sungIn ∈ wsL_law := xw_0 _ (List.mem_of_getElem? (i := 22) rfl) rfl
theorem mw_4_21 : Cond.code yX8_sungIn cX8_sungIn 4 (some .int) ∈ wsL_law := xw_4 _ (List.mem_of_getElem? (i := 21) rfl) rfl
theorem mw_4_22 : Cond.methodLink RX8 128 yX8_marksIn ∈ wsL_law := xw_4 _ (List.mem_of_getElem? (i := 22) rfl) rfl
theorem mw_4_24 : Cond.instanceMethod yX8_marksIn ∈ wsL_law := xw_4 _ (List.mem_of_getElem? (i := 24) rfl) rfl
theorem mw_0_23 : Cond.selects RX8 yX8_marksIn yX8_marksIn ∈ wsL_law := xw_0 _ (List.mem_of_getElem? (i := 23) rfl) rfl
theorem mw_4_25 : Cond.code yX8_marksIn cX8_marksIn 4 (some .int) ∈ wsL_law := xw_4 _ (List.mem_of_getElem? (i := 25) rfl) rfl
theorem mw_2_196 : Cond.methodLink RL 45 yX7_foot ∈ wsL_law := xw_2 _ (List.mem_of_getElem? (i := 196) rfl) rfl
theorem mw_2_197 : Cond.instanceMethod yX7_foot ∈ wsL_law := xw_2 _ (List.mem_of_getElem? (i := 197) rfl) rfl
theorem mw_2_198 : Cond.selects RX7 yX7_foot yX7_foot ∈ wsL_law := xw_2 _ (List.mem_of_getElem? (i := 198) rfl) rfl
theorem mw_2_199 : Cond.code yX7_foot cX7_foot 4 (some .int) ∈ wsL_law := xw_2 _ (List.mem_of_getElem? (i := 199) rfl) rfl
theorem mw_2_200 : Cond.methodLink RX7 149 yX5_hasFoot ∈ wsL_law := xw_2 _ (List.mem_of_getElem? (i := 200) rfl) rfl
theorem mw_2_201 : Cond.methodLink RX7 152 yX5_beatsOf ∈ wsL_law := xw_2 _ (List.mem_of_getElem? (i := 201) rfl) rfl
theorem mw_2_202 : Cond.methodLink RX7 156 yX5_isMarked ∈ wsL_law := xw_2 _ (List.mem_of_getElem? (i := 202) rfl) rfl
theorem mw_4_26 : Cond.methodLink RL 49 yX8_foot ∈ wsL_law := xw_4 _ (List.mem_of_getElem? (i := 26) rfl) rfl
theorem mw_4_27 : Cond.instanceMethod yX8_foot ∈ wsL_law := xw_4 _ (List.mem_of_getElem? (i := 27) rfl) rfl
theorem mw_4_28 : Cond.selects RX8 yX8_foot yX8_foot ∈ wsL_law := xw_4 _ (List.mem_of_getElem? (i := 28) rfl) rfl
theorem mw_4_29 : Cond.code yX8_foot cX8_foot 4 (some .int) ∈ wsL_law := xw_4 _ (List.mem_of_getElem? (i := 29) rfl) rfl
theorem mw_2_203 : Cond.methodLink RL 50 yX7_stretch ∈ wsL_law := xw_2 _ (List.mem_of_getElem? (i := 203) rfl) rfl
theorem mw_2_204 : Cond.instanceMethod yX7_stretch ∈ wsL_law := xw_2 _ (List.mem_of_getElem? (i := 204) rfl) rfl
theorem mw_2_205 : Cond.selects RX7 yX7_stretch yX7_stretch ∈ wsL_law := xw_2 _ (List.mem_of_getElem? (i := 205) rfl) rfl
theorem mw_2_206 : Cond.code yX7_stretch cX7_stretch 3 (some .int) ∈ wsL_law := xw_2 _ (List.mem_of_getElem? (i := 206) rfl) rfl
theorem mw_2_207 : Cond.methodLink RX7 159 yX3_slopeOf ∈ wsL_law := xw_2 _ (List.mem_of_getElem? (i := 207) rfl) rfl
theorem mw_2_208 : Cond.methodLink RX7 162 yX3_isMuddy ∈ wsL_law := xw_2 _ (List.mem_of_getElem? (i := 208) rfl) rfl
theorem mw_2_209 : Cond.methodLink RX7 165 yX3_beatsToSing ∈ wsL_law := xw_2 _ (List.mem_of_getElem? (i := 209) rfl) rfl
theorem mw_2_210 : Cond.instanceMethod yX3_beatsToSing ∈ wsL_law := xw_2 _ (List.mem_of_getElem? (i := 210) rfl) rfl
theorem mw_2_211 : Cond.selects RX3 yX3_beatsToSing yX3_beatsToSing ∈ wsL_law := xw_2 _ (List.mem_of_getElem? (i := 211) rfl) rfl
theorem mw_2_212 : Cond.code yX3_beatsToSing cX3_beatsToSing 4 (some .int) ∈ wsL_law := xw_2 _ (List.mem_of_getElem? (i := 212) rfl) rfl
theorem mw_2_213 : Cond.methodLink RX3 30 yX3_stepsOf ∈ wsL_law := xw_2 _ (List.mem_of_getElem? (i := 213) rfl) rfl
theorem mw_2_214 : Cond.methodLink RX3 34 yX3_isMuddy ∈ wsL_law := xw_2 _ (List.mem_of_getElem? (i := 214) rfl) rfl
theorem mw_4_30 : Cond.methodLink RL 53 yX8_stretch ∈ wsL_law := xw_4 _ (List.mem_of_getElem? (i := 30) rfl) rfl
theorem mw_4_31 : Cond.instanceMethod yX8_stretch ∈ wsL_law := xw_4 _ (List.mem_of_getElem? (i := 31) rfl) rfl
theorem mw_4_32 : Cond.selects RX8 yX8_stretch yX8_stretch ∈ wsL_law := xw_4 _ (List.mem_of_getElem? (i := 32) rfl) rfl
theorem mw_4_33 : Cond.code yX8_stretch cX8_stretch 3 (some .int) ∈ wsL_law := xw_4 _ (List.mem_of_getElem? (i := 33) rfl) rfl
theorem mw_4_34 : Cond.methodLink RX8 131 yX8_sungFor ∈ wsL_law := xw_4 _ (List.mem_of_getElem? (i := 34) rfl) rfl
theorem mw_4_36 : Cond.instanceMethod yX8_sungFor ∈ wsL_law := xw_4 _ (List.mem_of_getElem? (i := 36) rfl) rfl
theorem mw_0_24 : Cond.selects RX8 yX8_sungFor yX8_sungFor ∈ wsL_law := xw_0 _ (List.mem_of_getElem? (i := 24) rfl) rfl
theorem mw_4_37 : Cond.code yX8_sungFor cX8_sungFor 5 (some .int) ∈ wsL_law := xw_4 _ (List.mem_of_getElem? (i := 37) rfl) rfl
theorem mw_2_215 : Cond.methodLink RL 54 yX7_walk ∈ wsL_law := xw_2 _ (List.mem_of_getElem? (i := 215) rfl) rfl
theorem mw_2_216 : Cond.instanceMethod yX7_walk ∈ wsL_law := xw_2 _ (List.mem_of_getElem? (i := 216) rfl) rfl
theorem mw_2_217 : Cond.selects RX7 yX7_walk yX7_walk ∈ wsL_law := xw_2 _ (List.mem_of_getElem? (i := 217) rfl) rfl
theorem mw_2_218 : Cond.code yX7_walk cX7_walk 2 (some .int) ∈ wsL_law := xw_2 _ (List.mem_of_getElem? (i := 218) rfl) rfl
theorem mw_4_38 : Cond.methodLink RL 57 yX8_walk ∈ wsL_law := xw_4 _ (List.mem_of_getElem? (i := 38) rfl) rfl
theorem mw_4_39 : Cond.instanceMethod yX8_walk ∈ wsL_law := xw_4 _ (List.mem_of_getElem? (i := 39) rfl) rfl
theorem mw_4_40 : Cond.selects RX8 yX8_walk yX8_walk ∈ wsL_law := xw_4 _ (List.mem_of_getElem? (i := 40) rfl) rfl
theorem mw_4_41 : Cond.code yX8_walk cX8_walk 2 (some .int) ∈ wsL_law := xw_4 _ (List.mem_of_getElem? (i := 41) rfl) rfl
theorem mw_2_219 : Cond.methodLink RL 58 yX7_count ∈ wsL_law := xw_2 _ (List.mem_of_getElem? (i := 219) rfl) rfl
theorem mw_2_220 : Cond.instanceMethod yX7_count ∈ wsL_law := xw_2 _ (List.mem_of_getElem? (i := 220) rfl) rfl
theorem mw_2_221 : Cond.selects RX7 yX7_count yX7_count ∈ wsL_law := xw_2 _ (List.mem_of_getElem? (i := 221) rfl) rfl
theorem mw_2_222 : Cond.code yX7_count cX7_count 2 (some .int) ∈ wsL_law := xw_2 _ (List.mem_of_getElem? (i := 222) rfl) rfl
theorem mw_2_223 : Cond.methodLink RX7 207 yX5_allBeats ∈ wsL_law := xw_2 _ (List.mem_of_getElem? (i := 223) rfl) rfl
theorem mw_2_224 : Cond.instanceMethod yX5_allBeats ∈ wsL_law := xw_2 _ (List.mem_of_getElem? (i := 224) rfl) rfl
theorem mw_2_225 : Cond.selects RX5 yX5_allBeats yX5_allBeats ∈ wsL_law := xw_2 _ (List.mem_of_getElem? (i := 225) rfl) rfl
theorem mw_2_226 : Cond.code yX5_allBeats cX5_allBeats 3 (some .int) ∈ wsL_law := xw_2 _ (List.mem_of_getElem? (i := 226) rfl) rfl
theorem mw_2_227 : Cond.methodLink RX5 45 yX5_beatsOfLine ∈ wsL_law := xw_2 _ (List.mem_of_getElem? (i := 227) rfl) rfl
theorem mw_2_228 : Cond.methodLink RX7 210 yX5_allMarks ∈ wsL_law := xw_2 _ (List.mem_of_getElem? (i := 228) rfl) rfl
theorem mw_2_229 : Cond.instanceMethod yX5_allMarks ∈ wsL_law := xw_2 _ (List.mem_of_getElem? (i := 229) rfl) rfl
theorem mw_2_230 : Cond.selects RX5 yX5_allMarks yX5_allMarks ∈ wsL_law := xw_2 _ (List.mem_of_getElem? (i := 230) rfl) rfl
theorem mw_2_231 : Cond.code yX5_allMarks cX5_allMarks 3 (some .int) ∈ wsL_law := xw_2 _ (List.mem_of_getElem? (i := 231) rfl) rfl
theorem mw_2_232 : Cond.methodLink RX5 48 yX5_marksOfLine ∈ wsL_law := xw_2 _ (List.mem_of_getElem? (i := 232) rfl) rfl
theorem mw_2_233 : Cond.methodLink RX7 213 yX3_allSteps ∈ wsL_law := xw_2 _ (List.mem_of_getElem? (i := 233) rfl) rfl
theorem mw_2_234 : Cond.instanceMethod yX3_allSteps ∈ wsL_law := xw_2 _ (List.mem_of_getElem? (i := 234) rfl) rfl
theorem mw_2_235 : Cond.selects RX3 yX3_allSteps yX3_allSteps ∈ wsL_law := xw_2 _ (List.mem_of_getElem? (i := 235) rfl) rfl
theorem mw_2_236 : Cond.code yX3_allSteps cX3_allSteps 3 (some .int) ∈ wsL_law := xw_2 _ (List.mem_of_getElem? (i := 236) rfl) rfl
theorem mw_4_42 : Cond.methodLink RL 61 yX8_count ∈ wsL_law := xw_4 _ (List.mem_of_getElem? (i := 42) rfl) rfl
theorem mw_4_43 : Cond.instanceMethod yX8_count ∈ wsL_law := xw_4 _ (List.mem_of_getElem? (i := 43) rfl) rfl
theorem mw_4_44 : Cond.selects RX8 yX8_count yX8_count ∈ wsL_law := xw_4 _ (List.mem_of_getElem? (i := 44) rfl) rfl
theorem mw_4_45 : Cond.code yX8_count cX8_count 2 (some .int) ∈ wsL_law := xw_4 _ (List.mem_of_getElem? (i := 45) rfl) rfl
theorem mw_4_46 : Cond.methodLink RX8 135 yX8_sungInSong ∈ wsL_law := xw_4 _ (List.mem_of_getElem? (i := 46) rfl) rfl
theorem mw_4_48 : Cond.instanceMethod yX8_sungInSong ∈ wsL_law := xw_4 _ (List.mem_of_getElem? (i := 48) rfl) rfl
theorem mw_0_25 : Cond.selects RX8 yX8_sungInSong yX8_sungInSong ∈ wsL_law := xw_0 _ (List.mem_of_getElem? (i := 25) rfl) rfl
theorem mw_4_49 : Cond.code yX8_sungInSong cX8_sungInSong 3 (some .int) ∈ wsL_law := xw_4 _ (List.mem_of_getElem? (i := 49) rfl) rfl
theorem mw_4_50 : Cond.methodLink RX8 138 yX8_marksInSong ∈ wsL_law := xw_4 _ (List.mem_of_getElem? (i := 50) rfl) rfl
theorem mw_4_52 : Cond.instanceMethod yX8_marksInSong ∈ wsL_law := xw_4 _ (List.mem_of_getElem? (i := 52) rfl) rfl
theorem mw_0_26 : Cond.selects RX8 yX8_marksInSong yX8_marksInSong ∈ wsL_law := xw_0 _ (List.mem_of_getElem? (i := 26) rfl) rfl
theorem mw_4_53 : Cond.code yX8_marksInSong cX8_marksInSong 3 (some .int) ∈ wsL_law := xw_4 _ (List.mem_of_getElem? (i := 53) rfl) rfl
theorem mw_4_54 : Cond.methodLink RX8 141 yX8_stepsOfRoad ∈ wsL_law := xw_4 _ (List.mem_of_getElem? (i := 54) rfl) rfl
theorem mw_4_56 : Cond.instanceMethod yX8_stepsOfRoad ∈ wsL_law := xw_4 _ (List.mem_of_getElem? (i := 56) rfl) rfl
theorem mw_0_27 : Cond.selects RX8 yX8_stepsOfRoad yX8_stepsOfRoad ∈ wsL_law := xw_0 _ (List.mem_of_getElem? (i := 27) rfl) rfl
theorem mw_4_57 : Cond.code yX8_stepsOfRoad cX8_stepsOfRoad 3 (some .int) ∈ wsL_law := xw_4 _ (List.mem_of_getElem? (i := 57) rfl) rfl
theorem mw_2_237 : Cond.methodLink RL 62 yX7_untilWalked ∈ wsL_law := xw_2 _ (List.mem_of_getElem? (i := 237) rfl) rfl
theorem mw_2_238 : Cond.instanceMethod yX7_untilWalked ∈ wsL_law := xw_2 _ (List.mem_of_getElem? (i := 238) rfl) rfl
theorem mw_2_239 : Cond.selects RX7 yX7_untilWalked yX7_untilWalked ∈ wsL_law := xw_2 _ (List.mem_of_getElem? (i := 239) rfl) rfl
theorem mw_3_0 : Cond.code yX7_untilWalked cX7_untilWalked 2 (some .int) ∈ wsL_law := xw_3 _ (List.mem_of_getElem? (i := 0) rfl) rfl
theorem mw_3_1 : Cond.methodLink RX7 221 yX1_copyFrom ∈ wsL_law := xw_3 _ (List.mem_of_getElem? (i := 1) rfl) rfl
theorem mw_4_58 : Cond.methodLink RL 65 yX8_untilWalked ∈ wsL_law := xw_4 _ (List.mem_of_getElem? (i := 58) rfl) rfl
theorem mw_4_59 : Cond.instanceMethod yX8_untilWalked ∈ wsL_law := xw_4 _ (List.mem_of_getElem? (i := 59) rfl) rfl
theorem mw_4_60 : Cond.selects RX8 yX8_untilWalked yX8_untilWalked ∈ wsL_law := xw_4 _ (List.mem_of_getElem? (i := 60) rfl) rfl
theorem mw_4_61 : Cond.code yX8_untilWalked cX8_untilWalked 4 (some .int) ∈ wsL_law := xw_4 _ (List.mem_of_getElem? (i := 61) rfl) rfl
theorem mw_3_2 : Cond.methodLink RL 66 yX7_together ∈ wsL_law := xw_3 _ (List.mem_of_getElem? (i := 2) rfl) rfl
theorem mw_3_3 : Cond.instanceMethod yX7_together ∈ wsL_law := xw_3 _ (List.mem_of_getElem? (i := 3) rfl) rfl
theorem mw_3_4 : Cond.selects RX7 yX7_together yX7_together ∈ wsL_law := xw_3 _ (List.mem_of_getElem? (i := 4) rfl) rfl
theorem mw_3_5 : Cond.code yX7_together cX7_together 4 (some .int) ∈ wsL_law := xw_3 _ (List.mem_of_getElem? (i := 5) rfl) rfl
theorem mw_3_6 : Cond.methodLink RX7 225 yX1_goOn ∈ wsL_law := xw_3 _ (List.mem_of_getElem? (i := 6) rfl) rfl
theorem mw_4_62 : Cond.methodLink RL 69 yX8_together ∈ wsL_law := xw_4 _ (List.mem_of_getElem? (i := 62) rfl) rfl
theorem mw_4_63 : Cond.instanceMethod yX8_together ∈ wsL_law := xw_4 _ (List.mem_of_getElem? (i := 63) rfl) rfl
theorem mw_4_64 : Cond.selects RX8 yX8_together yX8_together ∈ wsL_law := xw_4 _ (List.mem_of_getElem? (i := 64) rfl) rfl
theorem mw_4_65 : Cond.code yX8_together cX8_together 3 (some .int) ∈ wsL_law := xw_4 _ (List.mem_of_getElem? (i := 65) rfl) rfl
theorem mw_3_7 : Cond.methodLink RL 70 yX7_meets ∈ wsL_law := xw_3 _ (List.mem_of_getElem? (i := 7) rfl) rfl
theorem mw_3_8 : Cond.instanceMethod yX7_meets ∈ wsL_law := xw_3 _ (List.mem_of_getElem? (i := 8) rfl) rfl
theorem mw_3_9 : Cond.selects RX7 yX7_meets yX7_meets ∈ wsL_law := xw_3 _ (List.mem_of_getElem? (i := 9) rfl) rfl
theorem mw_3_10 : Cond.code yX7_meets cX7_meets 5 (some .int) ∈ wsL_law := xw_3 _ (List.mem_of_getElem? (i := 10) rfl) rfl
theorem mw_3_11 : Cond.methodLink RX7 229 yX7_songsByCounting ∈ wsL_law := xw_3 _ (List.mem_of_getElem? (i := 11) rfl) rfl
theorem mw_3_12 : Cond.static yX7_songsByCounting ∈ wsL_law := xw_3 _ (List.mem_of_getElem? (i := 12) rfl) rfl
theorem mw_3_13 : Cond.code yX7_songsByCounting cX7_songsByCounting 3 (some .int) ∈ wsL_law := xw_3 _ (List.mem_of_getElem? (i := 13) rfl) rfl
theorem mw_3_14 : Cond.methodLink RX7 232 yX7_songsAtOnce ∈ wsL_law := xw_3 _ (List.mem_of_getElem? (i := 14) rfl) rfl
theorem mw_3_15 : Cond.static yX7_songsAtOnce ∈ wsL_law := xw_3 _ (List.mem_of_getElem? (i := 15) rfl) rfl
theorem mw_3_16 : Cond.code yX7_songsAtOnce cX7_songsAtOnce 3 (some .int) ∈ wsL_law := xw_3 _ (List.mem_of_getElem? (i := 16) rfl) rfl
theorem mw_3_17 : Cond.methodLink RX7 276 yX7_greatestShared ∈ wsL_law := xw_3 _ (List.mem_of_getElem? (i := 17) rfl) rfl
theorem mw_3_18 : Cond.static yX7_greatestShared ∈ wsL_law := xw_3 _ (List.mem_of_getElem? (i := 18) rfl) rfl
theorem mw_3_19 : Cond.code yX7_greatestShared cX7_greatestShared 6 (some .int) ∈ wsL_law := xw_3 _ (List.mem_of_getElem? (i := 19) rfl) rfl
theorem mw_4_66 : Cond.methodLink RL 73 yX8_meets ∈ wsL_law := xw_4 _ (List.mem_of_getElem? (i := 66) rfl) rfl
theorem mw_4_67 : Cond.instanceMethod yX8_meets ∈ wsL_law := xw_4 _ (List.mem_of_getElem? (i := 67) rfl) rfl
theorem mw_4_68 : Cond.selects RX8 yX8_meets yX8_meets ∈ wsL_law := xw_4 _ (List.mem_of_getElem? (i := 68) rfl) rfl
theorem mw_4_69 : Cond.code yX8_meets cX8_meets 4 (some .int) ∈ wsL_law := xw_4 _ (List.mem_of_getElem? (i := 69) rfl) rfl
theorem mw_3_20 : Cond.methodLink RL 74 yX7_leastBreath ∈ wsL_law := xw_3 _ (List.mem_of_getElem? (i := 20) rfl) rfl
theorem mw_3_21 : Cond.instanceMethod yX7_leastBreath ∈ wsL_law := xw_3 _ (List.mem_of_getElem? (i := 21) rfl) rfl
theorem mw_3_22 : Cond.selects RX7 yX7_leastBreath yX7_leastBreath ∈ wsL_law := xw_3 _ (List.mem_of_getElem? (i := 22) rfl) rfl
theorem mw_3_23 : Cond.code yX7_leastBreath cX7_leastBreath 3 (some .int) ∈ wsL_law := xw_3 _ (List.mem_of_getElem? (i := 23) rfl) rfl
theorem mw_3_25 : Cond.constant RX7 238 (1000000) ∈ wsL_law := xw_3 _ (List.mem_of_getElem? (i := 25) rfl) rfl
theorem mw_3_27 : Cond.methodLink RX7 242 Lib.Math.min.name ∈ wsL_law := xw_3 _ (List.mem_of_getElem? (i := 27) rfl) rfl
theorem mw_3_28 : Cond.fieldLink RX7 247 "MarchMetres" "LEAST_VALUES" "[I" ∈ wsL_law := xw_3 _ (List.mem_of_getElem? (i := 28) rfl) rfl
theorem mw_3_29 : Cond.methodLink RX7 251 Lib.Math.max.name ∈ wsL_law := xw_3 _ (List.mem_of_getElem? (i := 29) rfl) rfl
theorem mw_3_30 : Cond.fieldLink RX7 254 "MarchMetres" "MOST_VALUES" "[I" ∈ wsL_law := xw_3 _ (List.mem_of_getElem? (i := 30) rfl) rfl
theorem mw_3_24 : Cond.methodLink RX7 235 yX4_copyFrom ∈ wsL_law := xw_3 _ (List.mem_of_getElem? (i := 24) rfl) rfl
theorem mw_3_26 : Cond.methodLink RX7 239 yX1_startAnew ∈ wsL_law := xw_3 _ (List.mem_of_getElem? (i := 26) rfl) rfl
theorem mw_4_70 : Cond.methodLink RL 77 yX8_leastBreath ∈ wsL_law := xw_4 _ (List.mem_of_getElem? (i := 70) rfl) rfl
theorem mw_4_71 : Cond.instanceMethod yX8_leastBreath ∈ wsL_law := xw_4 _ (List.mem_of_getElem? (i := 71) rfl) rfl
theorem mw_4_72 : Cond.selects RX8 yX8_leastBreath yX8_leastBreath ∈ wsL_law := xw_4 _ (List.mem_of_getElem? (i := 72) rfl) rfl
theorem mw_4_73 : Cond.code yX8_leastBreath cX8_leastBreath 3 (some .int) ∈ wsL_law := xw_4 _ (List.mem_of_getElem? (i := 73) rfl) rfl
theorem mw_4_74 : Cond.methodLink RX8 144 yX8_isWalkedAnew ∈ wsL_law := xw_4 _ (List.mem_of_getElem? (i := 74) rfl) rfl
theorem mw_4_76 : Cond.instanceMethod yX8_isWalkedAnew ∈ wsL_law := xw_4 _ (List.mem_of_getElem? (i := 76) rfl) rfl
theorem mw_0_28 : Cond.selects RX8 yX8_isWalkedAnew yX8_isWalkedAnew ∈ wsL_law := xw_0 _ (List.mem_of_getElem? (i := 28) rfl) rfl
theorem mw_4_77 : Cond.code yX8_isWalkedAnew cX8_isWalkedAnew 1 (some .boolean) ∈ wsL_law := xw_4 _ (List.mem_of_getElem? (i := 77) rfl) rfl
theorem mw_3_31 : Cond.methodLink RL 78 yX7_bestPause ∈ wsL_law := xw_3 _ (List.mem_of_getElem? (i := 31) rfl) rfl
theorem mw_3_32 : Cond.instanceMethod yX7_bestPause ∈ wsL_law := xw_3 _ (List.mem_of_getElem? (i := 32) rfl) rfl
theorem mw_3_33 : Cond.selects RX7 yX7_bestPause yX7_bestPause ∈ wsL_law := xw_3 _ (List.mem_of_getElem? (i := 33) rfl) rfl
theorem mw_3_34 : Cond.code yX7_bestPause cX7_bestPause 4 (some .int) ∈ wsL_law := xw_3 _ (List.mem_of_getElem? (i := 34) rfl) rfl
theorem mw_4_78 : Cond.methodLink RL 81 yX8_bestPause ∈ wsL_law := xw_4 _ (List.mem_of_getElem? (i := 78) rfl) rfl
theorem mw_4_79 : Cond.instanceMethod yX8_bestPause ∈ wsL_law := xw_4 _ (List.mem_of_getElem? (i := 79) rfl) rfl
theorem mw_4_80 : Cond.selects RX8 yX8_bestPause yX8_bestPause ∈ wsL_law := xw_4 _ (List.mem_of_getElem? (i := 80) rfl) rfl
theorem mw_4_81 : Cond.code yX8_bestPause cX8_bestPause 5 (some .int) ∈ wsL_law := xw_4 _ (List.mem_of_getElem? (i := 81) rfl) rfl
theorem mw_3_35 : Cond.methodLink RL 84 yX7_put ∈ wsL_law := xw_3 _ (List.mem_of_getElem? (i := 35) rfl) rfl
theorem mw_3_36 : Cond.instanceMethod yX7_put ∈ wsL_law := xw_3 _ (List.mem_of_getElem? (i := 36) rfl) rfl
theorem mw_3_37 : Cond.selects RX7 yX7_put yX7_put ∈ wsL_law := xw_3 _ (List.mem_of_getElem? (i := 37) rfl) rfl
theorem mw_3_38 : Cond.code yX7_put cX7_put 5 (some .int) ∈ wsL_law := xw_3 _ (List.mem_of_getElem? (i := 38) rfl) rfl
theorem mw_3_39 : Cond.methodLink RX7 257 yX2_charactersIn ∈ wsL_law := xw_3 _ (List.mem_of_getElem? (i := 39) rfl) rfl
theorem mw_3_40 : Cond.static yX2_charactersIn ∈ wsL_law := xw_3 _ (List.mem_of_getElem? (i := 40) rfl) rfl
theorem mw_3_41 : Cond.code yX2_charactersIn cX2_charactersIn 6 (some .int) ∈ wsL_law := xw_3 _ (List.mem_of_getElem? (i := 41) rfl) rfl
theorem mw_3_42 : Cond.methodLink RX2 15 yX2_codeIn ∈ wsL_law := xw_3 _ (List.mem_of_getElem? (i := 42) rfl) rfl
theorem mw_3_43 : Cond.static yX2_codeIn ∈ wsL_law := xw_3 _ (List.mem_of_getElem? (i := 43) rfl) rfl
theorem mw_3_44 : Cond.code yX2_codeIn cX2_codeIn 3 (some .int) ∈ wsL_law := xw_3 _ (List.mem_of_getElem? (i := 44) rfl) rfl
theorem mw_3_45 : Cond.constantLong RX2 19 (255) ∈ wsL_law := xw_3 _ (List.mem_of_getElem? (i := 45) rfl) rfl
theorem mw_3_46 : Cond.methodLink RX7 261 yX2_codeIn ∈ wsL_law := xw_3 _ (List.mem_of_getElem? (i := 46) rfl) rfl
theorem mw_3_47 : Cond.methodLink RX7 265 yX2_append ∈ wsL_law := xw_3 _ (List.mem_of_getElem? (i := 47) rfl) rfl
theorem mw_3_48 : Cond.instanceMethod yX2_append ∈ wsL_law := xw_3 _ (List.mem_of_getElem? (i := 48) rfl) rfl
theorem mw_3_49 : Cond.selects RX2 yX2_append yX2_append ∈ wsL_law := xw_3 _ (List.mem_of_getElem? (i := 49) rfl) rfl
theorem mw_3_50 : Cond.code yX2_append cX2_append 2 none ∈ wsL_law := xw_3 _ (List.mem_of_getElem? (i := 50) rfl) rfl
theorem mw_3_217 : Cond.methodLink RL 88 yX8_put ∈ wsL_law := xw_3 _ (List.mem_of_getElem? (i := 217) rfl) rfl
theorem mw_3_218 : Cond.instanceMethod yX8_put ∈ wsL_law := xw_3 _ (List.mem_of_getElem? (i := 218) rfl) rfl
theorem mw_3_219 : Cond.selects RX8 yX8_put yX8_put ∈ wsL_law := xw_3 _ (List.mem_of_getElem? (i := 219) rfl) rfl
theorem mw_3_220 : Cond.code yX8_put cX8_put 7 (some .int) ∈ wsL_law := xw_3 _ (List.mem_of_getElem? (i := 220) rfl) rfl
theorem mw_3_221 : Cond.constantLong RX8 99 (255) ∈ wsL_law := xw_3 _ (List.mem_of_getElem? (i := 221) rfl) rfl
theorem mw_3_51 : Cond.methodLink RL 89 yX7_wipe ∈ wsL_law := xw_3 _ (List.mem_of_getElem? (i := 51) rfl) rfl
theorem mw_3_52 : Cond.instanceMethod yX7_wipe ∈ wsL_law := xw_3 _ (List.mem_of_getElem? (i := 52) rfl) rfl
theorem mw_3_53 : Cond.selects RX7 yX7_wipe yX7_wipe ∈ wsL_law := xw_3 _ (List.mem_of_getElem? (i := 53) rfl) rfl
theorem mw_3_54 : Cond.code yX7_wipe cX7_wipe 2 (some .int) ∈ wsL_law := xw_3 _ (List.mem_of_getElem? (i := 54) rfl) rfl
theorem mw_3_222 : Cond.methodLink RL 92 yX8_wipe ∈ wsL_law := xw_3 _ (List.mem_of_getElem? (i := 222) rfl) rfl
theorem mw_3_223 : Cond.instanceMethod yX8_wipe ∈ wsL_law := xw_3 _ (List.mem_of_getElem? (i := 223) rfl) rfl
theorem mw_3_224 : Cond.selects RX8 yX8_wipe yX8_wipe ∈ wsL_law := xw_3 _ (List.mem_of_getElem? (i := 224) rfl) rfl
theorem mw_3_225 : Cond.code yX8_wipe cX8_wipe 2 (some .int) ∈ wsL_law := xw_3 _ (List.mem_of_getElem? (i := 225) rfl) rfl
theorem mw_3_55 : Cond.methodLink RL 93 yX7_fault ∈ wsL_law := xw_3 _ (List.mem_of_getElem? (i := 55) rfl) rfl
theorem mw_3_56 : Cond.instanceMethod yX7_fault ∈ wsL_law := xw_3 _ (List.mem_of_getElem? (i := 56) rfl) rfl
theorem mw_3_57 : Cond.selects RX7 yX7_fault yX7_fault ∈ wsL_law := xw_3 _ (List.mem_of_getElem? (i := 57) rfl) rfl
theorem mw_3_58 : Cond.code yX7_fault cX7_fault 1 (some .int) ∈ wsL_law := xw_3 _ (List.mem_of_getElem? (i := 58) rfl) rfl
theorem mw_3_226 : Cond.methodLink RL 96 yX8_fault ∈ wsL_law := xw_3 _ (List.mem_of_getElem? (i := 226) rfl) rfl
theorem mw_3_227 : Cond.instanceMethod yX8_fault ∈ wsL_law := xw_3 _ (List.mem_of_getElem? (i := 227) rfl) rfl
theorem mw_3_228 : Cond.selects RX8 yX8_fault yX8_fault ∈ wsL_law := xw_3 _ (List.mem_of_getElem? (i := 228) rfl) rfl
theorem mw_3_229 : Cond.code yX8_fault cX8_fault 1 (some .int) ∈ wsL_law := xw_3 _ (List.mem_of_getElem? (i := 229) rfl) rfl
theorem mw_3_59 : Cond.methodLink RL 97 yX7_undo ∈ wsL_law := xw_3 _ (List.mem_of_getElem? (i := 59) rfl) rfl
theorem mw_3_60 : Cond.instanceMethod yX7_undo ∈ wsL_law := xw_3 _ (List.mem_of_getElem? (i := 60) rfl) rfl
theorem mw_3_61 : Cond.selects RX7 yX7_undo yX7_undo ∈ wsL_law := xw_3 _ (List.mem_of_getElem? (i := 61) rfl) rfl
theorem mw_3_62 : Cond.code yX7_undo cX7_undo 1 (some .int) ∈ wsL_law := xw_3 _ (List.mem_of_getElem? (i := 62) rfl) rfl
theorem mw_3_63 : Cond.methodLink RX7 268 yX0_takeBackInto ∈ wsL_law := xw_3 _ (List.mem_of_getElem? (i := 63) rfl) rfl
theorem mw_3_64 : Cond.instanceMethod yX0_takeBackInto ∈ wsL_law := xw_3 _ (List.mem_of_getElem? (i := 64) rfl) rfl
theorem mw_3_65 : Cond.selects RX0 yX0_takeBackInto yX0_takeBackInto ∈ wsL_law := xw_3 _ (List.mem_of_getElem? (i := 65) rfl) rfl
theorem mw_3_66 : Cond.code yX0_takeBackInto cX0_takeBackInto 3 none ∈ wsL_law := xw_3 _ (List.mem_of_getElem? (i := 66) rfl) rfl
theorem mw_3_132 : Cond.methodLink RL 100 yX8_undo ∈ wsL_law := xw_3 _ (List.mem_of_getElem? (i := 132) rfl) rfl
theorem mw_3_133 : Cond.instanceMethod yX8_undo ∈ wsL_law := xw_3 _ (List.mem_of_getElem? (i := 133) rfl) rfl
theorem mw_3_134 : Cond.selects RX8 yX8_undo yX8_undo ∈ wsL_law := xw_3 _ (List.mem_of_getElem? (i := 134) rfl) rfl
theorem mw_3_135 : Cond.code yX8_undo cX8_undo 1 (some .int) ∈ wsL_law := xw_3 _ (List.mem_of_getElem? (i := 135) rfl) rfl
theorem mw_3_67 : Cond.methodLink RL 101 yX7_save ∈ wsL_law := xw_3 _ (List.mem_of_getElem? (i := 67) rfl) rfl
theorem mw_3_68 : Cond.instanceMethod yX7_save ∈ wsL_law := xw_3 _ (List.mem_of_getElem? (i := 68) rfl) rfl
theorem mw_3_69 : Cond.selects RX7 yX7_save yX7_save ∈ wsL_law := xw_3 _ (List.mem_of_getElem? (i := 69) rfl) rfl
theorem mw_3_70 : Cond.code yX7_save cX7_save 3 (some .int) ∈ wsL_law := xw_3 _ (List.mem_of_getElem? (i := 70) rfl) rfl
theorem mw_3_71 : Cond.methodLink RX7 271 yX7_isSlot ∈ wsL_law := xw_3 _ (List.mem_of_getElem? (i := 71) rfl) rfl
theorem mw_3_72 : Cond.static yX7_isSlot ∈ wsL_law := xw_3 _ (List.mem_of_getElem? (i := 72) rfl) rfl
theorem mw_3_73 : Cond.code yX7_isSlot cX7_isSlot 1 (some .boolean) ∈ wsL_law := xw_3 _ (List.mem_of_getElem? (i := 73) rfl) rfl
theorem mw_3_74 : Cond.methodLink RX7 274 yX6_copyFrom ∈ wsL_law := xw_3 _ (List.mem_of_getElem? (i := 74) rfl) rfl
theorem mw_3_139 : Cond.methodLink RL 104 yX8_save ∈ wsL_law := xw_3 _ (List.mem_of_getElem? (i := 139) rfl) rfl
theorem mw_3_140 : Cond.instanceMethod yX8_save ∈ wsL_law := xw_3 _ (List.mem_of_getElem? (i := 140) rfl) rfl
theorem mw_3_141 : Cond.selects RX8 yX8_save yX8_save ∈ wsL_law := xw_3 _ (List.mem_of_getElem? (i := 141) rfl) rfl
theorem mw_3_142 : Cond.code yX8_save cX8_save 2 (some .int) ∈ wsL_law := xw_3 _ (List.mem_of_getElem? (i := 142) rfl) rfl
theorem mw_3_75 : Cond.methodLink RL 105 yX7_restore ∈ wsL_law := xw_3 _ (List.mem_of_getElem? (i := 75) rfl) rfl
theorem mw_3_76 : Cond.instanceMethod yX7_restore ∈ wsL_law := xw_3 _ (List.mem_of_getElem? (i := 76) rfl) rfl
theorem mw_3_77 : Cond.selects RX7 yX7_restore yX7_restore ∈ wsL_law := xw_3 _ (List.mem_of_getElem? (i := 77) rfl) rfl
theorem mw_3_78 : Cond.code yX7_restore cX7_restore 3 (some .int) ∈ wsL_law := xw_3 _ (List.mem_of_getElem? (i := 78) rfl) rfl
theorem mw_3_146 : Cond.methodLink RL 108 yX8_restore ∈ wsL_law := xw_3 _ (List.mem_of_getElem? (i := 146) rfl) rfl
theorem mw_3_147 : Cond.instanceMethod yX8_restore ∈ wsL_law := xw_3 _ (List.mem_of_getElem? (i := 147) rfl) rfl
theorem mw_3_148 : Cond.selects RX8 yX8_restore yX8_restore ∈ wsL_law := xw_3 _ (List.mem_of_getElem? (i := 148) rfl) rfl
theorem mw_3_149 : Cond.code yX8_restore cX8_restore 2 (some .int) ∈ wsL_law := xw_3 _ (List.mem_of_getElem? (i := 149) rfl) rfl
theorem inlX0 : ∀ w ∈ wsX00, w ∈ wsL_law := List.forall_mem_cons.mpr ⟨xw_1 _ (List.mem_of_getElem? (i := 177) rfl) rfl, List.forall_mem_cons.mpr ⟨xw_1 _ (List.mem_of_getElem? (i := 179) rfl) rfl, List.forall_mem_cons.mpr ⟨xw_1 _ (List.mem_of_getElem? (i := 181) rfl) rfl, fun _ h => absurd h List.not_mem_nil⟩⟩⟩
theorem inlX1 : ∀ w ∈ wsX10, w ∈ wsL_law := List.forall_mem_cons.mpr ⟨xw_1 _ (List.mem_of_getElem? (i := 116) rfl) rfl, List.forall_mem_cons.mpr ⟨xw_1 _ (List.mem_of_getElem? (i := 118) rfl) rfl, List.forall_mem_cons.mpr ⟨xw_1 _ (List.mem_of_getElem? (i := 120) rfl) rfl, List.forall_mem_cons.mpr ⟨xw_1 _ (List.mem_of_getElem? (i := 122) rfl) rfl, List.forall_mem_cons.mpr ⟨xw_1 _ (List.mem_of_getElem? (i := 124) rfl) rfl, List.forall_mem_cons.mpr ⟨xw_1 _ (List.mem_of_getElem? (i := 126) rfl) rfl, List.forall_mem_cons.mpr ⟨xw_1 _ (List.mem_of_getElem? (i := 128) rfl) rfl, List.forall_mem_cons.mpr ⟨xw_1 _ (List.mem_of_getElem? (i := 130) rfl) rfl, List.forall_mem_cons.mpr ⟨xw_1 _ (List.mem_of_getElem? (i := 132) rfl) rfl, List.forall_mem_cons.mpr ⟨xw_1 _ (List.mem_of_getElem? (i := 134) rfl) rfl, List.forall_mem_cons.mpr ⟨xw_1 _ (List.mem_of_getElem? (i := 136) rfl) rfl, List.forall_mem_cons.mpr ⟨xw_1 _ (List.mem_of_getElem? (i := 138) rfl) rfl, List.forall_mem_cons.mpr ⟨xw_1 _ (List.mem_of_getElem? (i := 140) rfl) rfl, List.forall_mem_cons.mpr ⟨xw_1 _ (List.mem_of_getElem? (i := 142) rfl) rfl, List.forall_mem_cons.mpr ⟨xw_1 _ (List.mem_of_getElem? (i := 144) rfl) rfl, fun _ h => absurd h List.not_mem_nil⟩⟩⟩⟩⟩⟩⟩⟩⟩⟩⟩⟩⟩⟩⟩
theorem inlX2 : ∀ w ∈ wsX20, w ∈ wsL_law := List.forall_mem_cons.mpr ⟨xw_1 _ (List.mem_of_getElem? (i := 193) rfl) rfl, List.forall_mem_cons.mpr ⟨xw_1 _ (List.mem_of_getElem? (i := 195) rfl) rfl, fun _ h => absurd h List.not_mem_nil⟩⟩
theorem inlX3 : ∀ w ∈ wsX30, w ∈ wsL_law := List.forall_mem_cons.mpr ⟨xw_1 _ (List.mem_of_getElem? (i := 72) rfl) rfl, List.forall_mem_cons.mpr ⟨xw_1 _ (List.mem_of_getElem? (i := 74) rfl) rfl, List.forall_mem_cons.mpr ⟨xw_1 _ (List.mem_of_getElem? (i := 76) rfl) rfl, List.forall_mem_cons.mpr ⟨xw_1 _ (List.mem_of_getElem? (i := 78) rfl) rfl, fun _ h => absurd h List.not_mem_nil⟩⟩⟩⟩
theorem inlX4 : ∀ w ∈ wsX40, w ∈ wsL_law := List.forall_mem_cons.mpr ⟨xw_1 _ (List.mem_of_getElem? (i := 34) rfl) rfl, fun _ h => absurd h List.not_mem_nil⟩
theorem inlX5 : ∀ w ∈ wsX50, w ∈ wsL_law := List.forall_mem_cons.mpr ⟨xw_1 _ (List.mem_of_getElem? (i := 50) rfl) rfl, List.forall_mem_cons.mpr ⟨xw_1 _ (List.mem_of_getElem? (i := 52) rfl) rfl, List.forall_mem_cons.mpr ⟨xw_1 _ (List.mem_of_getElem? (i := 54) rfl) rfl, List.forall_mem_cons.mpr ⟨xw_1 _ (List.mem_of_getElem? (i := 56) rfl) rfl, fun _ h => absurd h List.not_mem_nil⟩⟩⟩⟩
theorem inlX6 : ∀ w ∈ wsX60, w ∈ wsL_law := List.forall_mem_cons.mpr ⟨xw_1 _ (List.mem_of_getElem? (i := 155) rfl) rfl, List.forall_mem_cons.mpr ⟨xw_1 _ (List.mem_of_getElem? (i := 157) rfl) rfl, List.forall_mem_cons.mpr ⟨xw_1 _ (List.mem_of_getElem? (i := 159) rfl) rfl, List.forall_mem_cons.mpr ⟨xw_1 _ (List.mem_of_getElem? (i := 161) rfl) rfl, fun _ h => absurd h List.not_mem_nil⟩⟩⟩⟩
theorem inlX7 : ∀ w ∈ wsX70, w ∈ wsL_law := List.forall_mem_cons.mpr ⟨xw_1 _ (List.mem_of_getElem? (i := 224) rfl) rfl, List.forall_mem_cons.mpr ⟨xw_1 _ (List.mem_of_getElem? (i := 226) rfl) rfl, List.forall_mem_cons.mpr ⟨xw_1 _ (List.mem_of_getElem? (i := 228) rfl) rfl, List.forall_mem_cons.mpr ⟨xw_1 _ (List.mem_of_getElem? (i := 230) rfl) rfl, List.forall_mem_cons.mpr ⟨xw_1 _ (List.mem_of_getElem? (i := 232) rfl) rfl, List.forall_mem_cons.mpr ⟨xw_1 _ (List.mem_of_getElem? (i := 234) rfl) rfl, List.forall_mem_cons.mpr ⟨xw_1 _ (List.mem_of_getElem? (i := 236) rfl) rfl, fun _ h => absurd h List.not_mem_nil⟩⟩⟩⟩⟩⟩⟩
theorem inlX8 : ∀ w ∈ wsX80, w ∈ wsL_law := List.forall_mem_cons.mpr ⟨xw_3 _ (List.mem_of_getElem? (i := 103) rfl) rfl, List.forall_mem_cons.mpr ⟨xw_3 _ (List.mem_of_getElem? (i := 105) rfl) rfl, List.forall_mem_cons.mpr ⟨xw_3 _ (List.mem_of_getElem? (i := 107) rfl) rfl, List.forall_mem_cons.mpr ⟨xw_3 _ (List.mem_of_getElem? (i := 109) rfl) rfl, List.forall_mem_cons.mpr ⟨xw_3 _ (List.mem_of_getElem? (i := 111) rfl) rfl, List.forall_mem_cons.mpr ⟨xw_3 _ (List.mem_of_getElem? (i := 113) rfl) rfl, List.forall_mem_cons.mpr ⟨xw_3 _ (List.mem_of_getElem? (i := 115) rfl) rfl, List.forall_mem_cons.mpr ⟨xw_3 _ (List.mem_of_getElem? (i := 117) rfl) rfl, List.forall_mem_cons.mpr ⟨xw_3 _ (List.mem_of_getElem? (i := 119) rfl) rfl, List.forall_mem_cons.mpr ⟨xw_3 _ (List.mem_of_getElem? (i := 121) rfl) rfl, List.forall_mem_cons.mpr ⟨xw_3 _ (List.mem_of_getElem? (i := 123) rfl) rfl, List.forall_mem_cons.mpr ⟨xw_3 _ (List.mem_of_getElem? (i := 125) rfl) rfl, List.forall_mem_cons.mpr ⟨xw_3 _ (List.mem_of_getElem? (i := 127) rfl) rfl, List.forall_mem_cons.mpr ⟨xw_3 _ (List.mem_of_getElem? (i := 129) rfl) rfl, fun _ h => absurd h List.not_mem_nil⟩⟩⟩⟩⟩⟩⟩⟩⟩⟩⟩⟩⟩⟩
