section
-- ===== PART A: goes FIRST, ahead of the names: the tables' words, and 'selects' of the private methods out of them =====
/-- a private method of a class that the tables say can be made, by its rows of tables_1 -/
def lw_okq (q : MethodName × Nat) : Prop := (q.1.cls ≠ "java/lang/invoke/MethodHandle" ∧ q.1.cls ≠ "java/lang/invoke/VarHandle") ∧ Cond.instantiable q.1.cls q.2 ∈ tables_1 ∧ Cond.privateMethod q.1 ∈ tables_1 ∧ Cond.instanceMethod q.1 ∈ tables_1
theorem lw_p0 : lw_okq (⟨"MarchMetres$History", "placeOf", "(I)I"⟩, 3) := ⟨⟨by decide +kernel, by decide +kernel⟩, List.mem_of_getElem? (i := 166) (by decide +kernel), List.mem_of_getElem? (i := 255) (by decide +kernel), List.mem_of_getElem? (i := 256) (by decide +kernel)⟩
theorem lw_p1 : lw_okq (⟨"MarchMetres", "isReady", "()Z"⟩, 7) := ⟨⟨by decide +kernel, by decide +kernel⟩, List.mem_of_getElem? (i := 12) (by decide +kernel), List.mem_of_getElem? (i := 367) (by decide +kernel), List.mem_of_getElem? (i := 368) (by decide +kernel)⟩
theorem lw_p2 : lw_okq (⟨"MarchMetres$March", "stepOn", "(LMarchMetres$Road;I)V"⟩, 15) := ⟨⟨by decide +kernel, by decide +kernel⟩, List.mem_of_getElem? (i := 82) (by decide +kernel), List.mem_of_getElem? (i := 395) (by decide +kernel), List.mem_of_getElem? (i := 396) (by decide +kernel)⟩
theorem lw_p3 : lw_okq (⟨"MarchMetres$March", "singOn", "(LMarchMetres$Song;I)V"⟩, 15) := ⟨⟨by decide +kernel, by decide +kernel⟩, List.mem_of_getElem? (i := 82) (by decide +kernel), List.mem_of_getElem? (i := 404) (by decide +kernel), List.mem_of_getElem? (i := 405) (by decide +kernel)⟩
theorem lw_p4 : lw_okq (⟨"MarchMetresModel", "beginNow", "()V"⟩, 14) := ⟨⟨by decide +kernel, by decide +kernel⟩, List.mem_of_getElem? (i := 556) (by decide +kernel), List.mem_of_getElem? (i := 562) (by decide +kernel), List.mem_of_getElem? (i := 563) (by decide +kernel)⟩
theorem lw_p5 : lw_okq (⟨"MarchMetresModel", "record", "()V"⟩, 14) := ⟨⟨by decide +kernel, by decide +kernel⟩, List.mem_of_getElem? (i := 556) (by decide +kernel), List.mem_of_getElem? (i := 627) (by decide +kernel), List.mem_of_getElem? (i := 628) (by decide +kernel)⟩
theorem lw_p6 : lw_okq (⟨"MarchMetresModel", "canMarch", "()Z"⟩, 14) := ⟨⟨by decide +kernel, by decide +kernel⟩, List.mem_of_getElem? (i := 556) (by decide +kernel), List.mem_of_getElem? (i := 635) (by decide +kernel), List.mem_of_getElem? (i := 636) (by decide +kernel)⟩
theorem lw_p7 : lw_okq (⟨"MarchMetresModel", "marchNow", "(I)I"⟩, 14) := ⟨⟨by decide +kernel, by decide +kernel⟩, List.mem_of_getElem? (i := 556) (by decide +kernel), List.mem_of_getElem? (i := 639) (by decide +kernel), List.mem_of_getElem? (i := 640) (by decide +kernel)⟩
theorem lw_p8 : lw_okq (⟨"MarchMetresModel", "beat", "()V"⟩, 14) := ⟨⟨by decide +kernel, by decide +kernel⟩, List.mem_of_getElem? (i := 556) (by decide +kernel), List.mem_of_getElem? (i := 643) (by decide +kernel), List.mem_of_getElem? (i := 644) (by decide +kernel)⟩
theorem lw_p9 : lw_okq (⟨"MarchMetresModel", "climb", "()I"⟩, 14) := ⟨⟨by decide +kernel, by decide +kernel⟩, List.mem_of_getElem? (i := 556) (by decide +kernel), List.mem_of_getElem? (i := 647) (by decide +kernel), List.mem_of_getElem? (i := 648) (by decide +kernel)⟩
theorem lw_p10 : lw_okq (⟨"MarchMetresModel", "ofStretch", "(II)I"⟩, 14) := ⟨⟨by decide +kernel, by decide +kernel⟩, List.mem_of_getElem? (i := 556) (by decide +kernel), List.mem_of_getElem? (i := 651) (by decide +kernel), List.mem_of_getElem? (i := 652) (by decide +kernel)⟩
theorem lw_p11 : lw_okq (⟨"MarchMetresModel", "step", "()V"⟩, 14) := ⟨⟨by decide +kernel, by decide +kernel⟩, List.mem_of_getElem? (i := 556) (by decide +kernel), List.mem_of_getElem? (i := 655) (by decide +kernel), List.mem_of_getElem? (i := 656) (by decide +kernel)⟩
theorem lw_p12 : lw_okq (⟨"MarchMetresModel", "goOn", "()V"⟩, 14) := ⟨⟨by decide +kernel, by decide +kernel⟩, List.mem_of_getElem? (i := 556) (by decide +kernel), List.mem_of_getElem? (i := 659) (by decide +kernel), List.mem_of_getElem? (i := 660) (by decide +kernel)⟩
theorem lw_p13 : lw_okq (⟨"MarchMetresModel", "beatsOf", "(II)I"⟩, 14) := ⟨⟨by decide +kernel, by decide +kernel⟩, List.mem_of_getElem? (i := 556) (by decide +kernel), List.mem_of_getElem? (i := 663) (by decide +kernel), List.mem_of_getElem? (i := 664) (by decide +kernel)⟩
theorem lw_p14 : lw_okq (⟨"MarchMetresModel", "hasMark", "(II)Z"⟩, 14) := ⟨⟨by decide +kernel, by decide +kernel⟩, List.mem_of_getElem? (i := 556) (by decide +kernel), List.mem_of_getElem? (i := 667) (by decide +kernel), List.mem_of_getElem? (i := 668) (by decide +kernel)⟩
theorem lw_p15 : lw_okq (⟨"MarchMetresModel", "isStretch", "(I)Z"⟩, 14) := ⟨⟨by decide +kernel, by decide +kernel⟩, List.mem_of_getElem? (i := 556) (by decide +kernel), List.mem_of_getElem? (i := 690) (by decide +kernel), List.mem_of_getElem? (i := 691) (by decide +kernel)⟩
def lw_privs_1 : List (MethodName × Nat) := [(⟨"MarchMetres$History", "placeOf", "(I)I"⟩, 3), (⟨"MarchMetres", "isReady", "()Z"⟩, 7), (⟨"MarchMetres$March", "stepOn", "(LMarchMetres$Road;I)V"⟩, 15), (⟨"MarchMetres$March", "singOn", "(LMarchMetres$Song;I)V"⟩, 15), (⟨"MarchMetresModel", "beginNow", "()V"⟩, 14), (⟨"MarchMetresModel", "record", "()V"⟩, 14), (⟨"MarchMetresModel", "canMarch", "()Z"⟩, 14), (⟨"MarchMetresModel", "marchNow", "(I)I"⟩, 14), (⟨"MarchMetresModel", "beat", "()V"⟩, 14), (⟨"MarchMetresModel", "climb", "()I"⟩, 14), (⟨"MarchMetresModel", "ofStretch", "(II)I"⟩, 14), (⟨"MarchMetresModel", "step", "()V"⟩, 14), (⟨"MarchMetresModel", "goOn", "()V"⟩, 14), (⟨"MarchMetresModel", "beatsOf", "(II)I"⟩, 14), (⟨"MarchMetresModel", "hasMark", "(II)Z"⟩, 14), (⟨"MarchMetresModel", "isStretch", "(I)Z"⟩, 14)]
theorem lw_r1 : ∀ q ∈ lw_privs_1, lw_okq q := List.forall_mem_cons.mpr ⟨lw_p0, List.forall_mem_cons.mpr ⟨lw_p1, List.forall_mem_cons.mpr ⟨lw_p2, List.forall_mem_cons.mpr ⟨lw_p3, List.forall_mem_cons.mpr ⟨lw_p4, List.forall_mem_cons.mpr ⟨lw_p5, List.forall_mem_cons.mpr ⟨lw_p6, List.forall_mem_cons.mpr ⟨lw_p7, List.forall_mem_cons.mpr ⟨lw_p8, List.forall_mem_cons.mpr ⟨lw_p9, List.forall_mem_cons.mpr ⟨lw_p10, List.forall_mem_cons.mpr ⟨lw_p11, List.forall_mem_cons.mpr ⟨lw_p12, List.forall_mem_cons.mpr ⟨lw_p13, List.forall_mem_cons.mpr ⟨lw_p14, List.forall_mem_cons.mpr ⟨lw_p15, fun _ h => absurd h List.not_mem_nil⟩⟩⟩⟩⟩⟩⟩⟩⟩⟩⟩⟩⟩⟩⟩⟩
theorem lw_p16 : lw_okq (⟨"MarchMetresModel", "readPad", "()Z"⟩, 14) := ⟨⟨by decide +kernel, by decide +kernel⟩, List.mem_of_getElem? (i := 556) (by decide +kernel), List.mem_of_getElem? (i := 707) (by decide +kernel), List.mem_of_getElem? (i := 708) (by decide +kernel)⟩
theorem lw_p17 : lw_okq (⟨"MarchMetresModel", "readLine", "()Z"⟩, 14) := ⟨⟨by decide +kernel, by decide +kernel⟩, List.mem_of_getElem? (i := 556) (by decide +kernel), List.mem_of_getElem? (i := 711) (by decide +kernel), List.mem_of_getElem? (i := 712) (by decide +kernel)⟩
theorem lw_p18 : lw_okq (⟨"MarchMetresModel", "readFoot", "()Z"⟩, 14) := ⟨⟨by decide +kernel, by decide +kernel⟩, List.mem_of_getElem? (i := 556) (by decide +kernel), List.mem_of_getElem? (i := 715) (by decide +kernel), List.mem_of_getElem? (i := 716) (by decide +kernel)⟩
theorem lw_p19 : lw_okq (⟨"MarchMetresModel", "takes", "(I)Z"⟩, 14) := ⟨⟨by decide +kernel, by decide +kernel⟩, List.mem_of_getElem? (i := 556) (by decide +kernel), List.mem_of_getElem? (i := 719) (by decide +kernel), List.mem_of_getElem? (i := 720) (by decide +kernel)⟩
theorem lw_p20 : lw_okq (⟨"MarchMetresModel", "isLine", "(I)Z"⟩, 14) := ⟨⟨by decide +kernel, by decide +kernel⟩, List.mem_of_getElem? (i := 556) (by decide +kernel), List.mem_of_getElem? (i := 731) (by decide +kernel), List.mem_of_getElem? (i := 732) (by decide +kernel)⟩
theorem lw_p21 : lw_okq (⟨"MarchMetresModel", "sungIn", "(I)I"⟩, 14) := ⟨⟨by decide +kernel, by decide +kernel⟩, List.mem_of_getElem? (i := 556) (by decide +kernel), List.mem_of_getElem? (i := 735) (by decide +kernel), List.mem_of_getElem? (i := 736) (by decide +kernel)⟩
theorem lw_p22 : lw_okq (⟨"MarchMetresModel", "marksIn", "(I)I"⟩, 14) := ⟨⟨by decide +kernel, by decide +kernel⟩, List.mem_of_getElem? (i := 556) (by decide +kernel), List.mem_of_getElem? (i := 739) (by decide +kernel), List.mem_of_getElem? (i := 740) (by decide +kernel)⟩
theorem lw_p23 : lw_okq (⟨"MarchMetresModel", "sungFor", "(IZ)I"⟩, 14) := ⟨⟨by decide +kernel, by decide +kernel⟩, List.mem_of_getElem? (i := 556) (by decide +kernel), List.mem_of_getElem? (i := 751) (by decide +kernel), List.mem_of_getElem? (i := 752) (by decide +kernel)⟩
theorem lw_p24 : lw_okq (⟨"MarchMetresModel", "sungInSong", "()I"⟩, 14) := ⟨⟨by decide +kernel, by decide +kernel⟩, List.mem_of_getElem? (i := 556) (by decide +kernel), List.mem_of_getElem? (i := 763) (by decide +kernel), List.mem_of_getElem? (i := 764) (by decide +kernel)⟩
theorem lw_p25 : lw_okq (⟨"MarchMetresModel", "marksInSong", "()I"⟩, 14) := ⟨⟨by decide +kernel, by decide +kernel⟩, List.mem_of_getElem? (i := 556) (by decide +kernel), List.mem_of_getElem? (i := 767) (by decide +kernel), List.mem_of_getElem? (i := 768) (by decide +kernel)⟩
theorem lw_p26 : lw_okq (⟨"MarchMetresModel", "stepsOfRoad", "()I"⟩, 14) := ⟨⟨by decide +kernel, by decide +kernel⟩, List.mem_of_getElem? (i := 556) (by decide +kernel), List.mem_of_getElem? (i := 771) (by decide +kernel), List.mem_of_getElem? (i := 772) (by decide +kernel)⟩
theorem lw_p27 : lw_okq (⟨"MarchMetresModel", "isWalkedAnew", "()Z"⟩, 14) := ⟨⟨by decide +kernel, by decide +kernel⟩, List.mem_of_getElem? (i := 556) (by decide +kernel), List.mem_of_getElem? (i := 791) (by decide +kernel), List.mem_of_getElem? (i := 792) (by decide +kernel)⟩
def lw_privs_2 : List (MethodName × Nat) := [(⟨"MarchMetresModel", "readPad", "()Z"⟩, 14), (⟨"MarchMetresModel", "readLine", "()Z"⟩, 14), (⟨"MarchMetresModel", "readFoot", "()Z"⟩, 14), (⟨"MarchMetresModel", "takes", "(I)Z"⟩, 14), (⟨"MarchMetresModel", "isLine", "(I)Z"⟩, 14), (⟨"MarchMetresModel", "sungIn", "(I)I"⟩, 14), (⟨"MarchMetresModel", "marksIn", "(I)I"⟩, 14), (⟨"MarchMetresModel", "sungFor", "(IZ)I"⟩, 14), (⟨"MarchMetresModel", "sungInSong", "()I"⟩, 14), (⟨"MarchMetresModel", "marksInSong", "()I"⟩, 14), (⟨"MarchMetresModel", "stepsOfRoad", "()I"⟩, 14), (⟨"MarchMetresModel", "isWalkedAnew", "()Z"⟩, 14)]
theorem lw_r2 : ∀ q ∈ lw_privs_2, lw_okq q := List.forall_mem_cons.mpr ⟨lw_p16, List.forall_mem_cons.mpr ⟨lw_p17, List.forall_mem_cons.mpr ⟨lw_p18, List.forall_mem_cons.mpr ⟨lw_p19, List.forall_mem_cons.mpr ⟨lw_p20, List.forall_mem_cons.mpr ⟨lw_p21, List.forall_mem_cons.mpr ⟨lw_p22, List.forall_mem_cons.mpr ⟨lw_p23, List.forall_mem_cons.mpr ⟨lw_p24, List.forall_mem_cons.mpr ⟨lw_p25, List.forall_mem_cons.mpr ⟨lw_p26, List.forall_mem_cons.mpr ⟨lw_p27, fun _ h => absurd h List.not_mem_nil⟩⟩⟩⟩⟩⟩⟩⟩⟩⟩⟩⟩
def lw_privs : List (MethodName × Nat) := lw_privs_1 ++ (lw_privs_2)
def lw_tbl : List Cond := k2_sels lw_privs ++ tables_1
theorem lw_privs_ok : ∀ q ∈ lw_privs, lw_okq q := by
  show ∀ q ∈ lw_privs_1 ++ (lw_privs_2), lw_okq q
  exact List.forall_mem_append.mpr ⟨lw_r1, lw_r2⟩
end
section
def RX0 : String := "MarchMetres$History"
def TX0 : u_T := fun k => match k with
  | 0 => ("MarchMetres$History", "states", "[LMarchMetres$State;", true)
  | 1 => ("MarchMetres$History", "oldest", "I", false)
  | _ => ("MarchMetres$History", "size", "I", false)
def tyX0 : Nat → FieldType := fun k => match k with
  | 0 => .array (.object "MarchMetres$State")
  | 1 => .int
  | _ => .int
abbrev wsX00 : List Cond := u_ws RX0 TX0 3
theorem nmX0 : ∀ a, a < 3 → ∀ b, b < 3 → a ≠ b → (TX0 a).2.1 ≠ (TX0 b).2.1 := by decide +kernel
theorem tyX0_ok : ∀ k, k < 3 → parseFieldDescriptor (TX0 k).2.2.1 = some (tyX0 k) := by decide +kernel
abbrev cX0_init : ByteArray := prog_2_method_1_code
def yX0_init : MethodName := ⟨RX0, "<init>", "()V"⟩
abbrev cX0_record : ByteArray := prog_2_method_2_code
def yX0_record : MethodName := ⟨RX0, "record", "(LMarchMetres$State;)V"⟩
abbrev cX0_takeBackInto : ByteArray := prog_2_method_3_code
def yX0_takeBackInto : MethodName := ⟨RX0, "takeBackInto", "(LMarchMetres$State;)V"⟩
abbrev cX0_placeOf : ByteArray := prog_2_method_4_code
def yX0_placeOf : MethodName := ⟨RX0, "placeOf", "(I)I"⟩
def RX1 : String := "MarchMetres$March"
def TX1 : u_T := fun k => match k with
  | 0 => ("MarchMetres$March", "beats", "I", false)
  | 1 => ("MarchMetres$March", "ticks", "I", false)
  | 2 => ("MarchMetres$March", "line", "I", false)
  | 3 => ("MarchMetres$March", "foot", "I", false)
  | 4 => ("MarchMetres$March", "beat", "I", false)
  | 5 => ("MarchMetres$March", "stretch", "I", false)
  | 6 => ("MarchMetres$March", "steps", "I", false)
  | 7 => ("MarchMetres$March", "sungOnStretch", "I", false)
  | 8 => ("MarchMetres$March", "breath", "I", false)
  | 9 => ("MarchMetres$March", "pauseLeft", "I", false)
  | 10 => ("MarchMetres$March", "allSteps", "I", false)
  | 11 => ("MarchMetres$March", "skipped", "I", false)
  | 12 => ("MarchMetres$March", "gasps", "I", false)
  | 13 => ("MarchMetres$March", "songs", "I", false)
  | _ => ("MarchMetres$March", "sung", "I", false)
def tyX1 : Nat → FieldType := fun k => match k with
  | 0 => .int
  | 1 => .int
  | 2 => .int
  | 3 => .int
  | 4 => .int
  | 5 => .int
  | 6 => .int
  | 7 => .int
  | 8 => .int
  | 9 => .int
  | 10 => .int
  | 11 => .int
  | 12 => .int
  | 13 => .int
  | _ => .int
abbrev wsX10 : List Cond := u_ws RX1 TX1 15
theorem nmX1 : ∀ a, a < 15 → ∀ b, b < 15 → a ≠ b → (TX1 a).2.1 ≠ (TX1 b).2.1 := by decide +kernel
theorem tyX1_ok : ∀ k, k < 15 → parseFieldDescriptor (TX1 k).2.2.1 = some (tyX1 k) := by decide +kernel
abbrev cX1_init : ByteArray := prog_3_method_1_code
def yX1_init : MethodName := ⟨RX1, "<init>", "()V"⟩
abbrev cX1_startAnew : ByteArray := prog_3_method_2_code
def yX1_startAnew : MethodName := ⟨RX1, "startAnew", "(I)V"⟩
abbrev cX1_isAtEndOf : ByteArray := prog_3_method_3_code
def yX1_isAtEndOf : MethodName := ⟨RX1, "isAtEndOf", "(LMarchMetres$Road;)Z"⟩
abbrev cX1_goUntilWalked : ByteArray := prog_3_method_4_code
def yX1_goUntilWalked : MethodName := ⟨RX1, "goUntilWalked", "(LMarchMetres$Song;LMarchMetres$Road;LMarchMetres$Settings;I)V"⟩
abbrev cX1_goOn : ByteArray := prog_3_method_5_code
def yX1_goOn : MethodName := ⟨RX1, "goOn", "(LMarchMetres$Song;LMarchMetres$Road;LMarchMetres$Settings;)V"⟩
abbrev cX1_stepOn : ByteArray := prog_3_method_6_code
def yX1_stepOn : MethodName := ⟨RX1, "stepOn", "(LMarchMetres$Road;I)V"⟩
abbrev cX1_singOn : ByteArray := prog_3_method_7_code
def yX1_singOn : MethodName := ⟨RX1, "singOn", "(LMarchMetres$Song;I)V"⟩
abbrev cX1_copyFrom : ByteArray := prog_3_method_8_code
def yX1_copyFrom : MethodName := ⟨RX1, "copyFrom", "(LMarchMetres$March;)V"⟩
def RX2 : String := "MarchMetres$Pad"
def TX2 : u_T := fun k => match k with
  | 0 => ("MarchMetres$Pad", "codes", "[I", true)
  | _ => ("MarchMetres$Pad", "length", "I", false)
def tyX2 : Nat → FieldType := fun k => match k with
  | 0 => .array .int
  | _ => .int
abbrev wsX20 : List Cond := u_ws RX2 TX2 2
theorem nmX2 : ∀ a, a < 2 → ∀ b, b < 2 → a ≠ b → (TX2 a).2.1 ≠ (TX2 b).2.1 := by decide +kernel
theorem tyX2_ok : ∀ k, k < 2 → parseFieldDescriptor (TX2 k).2.2.1 = some (tyX2 k) := by decide +kernel
abbrev cX2_init : ByteArray := prog_4_method_1_code
def yX2_init : MethodName := ⟨RX2, "<init>", "()V"⟩
abbrev cX2_charactersIn : ByteArray := prog_4_method_2_code
def yX2_charactersIn : MethodName := ⟨RX2, "charactersIn", "(J)I"⟩
abbrev cX2_codeIn : ByteArray := prog_4_method_3_code
def yX2_codeIn : MethodName := ⟨RX2, "codeIn", "(JI)I"⟩
abbrev cX2_append : ByteArray := prog_4_method_4_code
def yX2_append : MethodName := ⟨RX2, "append", "(I)V"⟩
abbrev cX2_empty : ByteArray := prog_4_method_5_code
def yX2_empty : MethodName := ⟨RX2, "empty", "()V"⟩
abbrev cX2_faultIndex : ByteArray := prog_4_method_6_code
def yX2_faultIndex : MethodName := ⟨RX2, "faultIndex", "()I"⟩
abbrev cX2_writeInto : ByteArray := prog_4_method_7_code
def yX2_writeInto : MethodName := ⟨RX2, "writeInto", "(LMarchMetres$Song;)V"⟩
abbrev cX2_beatsMeantBy : ByteArray := prog_4_method_8_code
def yX2_beatsMeantBy : MethodName := ⟨RX2, "beatsMeantBy", "(I)I"⟩
def RX3 : String := "MarchMetres$Road"
def TX3 : u_T := fun k => match k with
  | 0 => ("MarchMetres$Road", "stretches", "I", false)
  | 1 => ("MarchMetres$Road", "steps", "[I", true)
  | 2 => ("MarchMetres$Road", "slopes", "[I", true)
  | _ => ("MarchMetres$Road", "muds", "[Z", true)
def tyX3 : Nat → FieldType := fun k => match k with
  | 0 => .int
  | 1 => .array .int
  | 2 => .array .int
  | _ => .array .boolean
abbrev wsX30 : List Cond := u_ws RX3 TX3 4
theorem nmX3 : ∀ a, a < 4 → ∀ b, b < 4 → a ≠ b → (TX3 a).2.1 ≠ (TX3 b).2.1 := by decide +kernel
theorem tyX3_ok : ∀ k, k < 4 → parseFieldDescriptor (TX3 k).2.2.1 = some (tyX3 k) := by decide +kernel
abbrev cX3_init : ByteArray := prog_5_method_1_code
def yX3_init : MethodName := ⟨RX3, "<init>", "()V"⟩
abbrev cX3_add : ByteArray := prog_5_method_2_code
def yX3_add : MethodName := ⟨RX3, "add", "(IIZ)V"⟩
abbrev cX3_remove : ByteArray := prog_5_method_3_code
def yX3_remove : MethodName := ⟨RX3, "remove", "(I)V"⟩
abbrev cX3_has : ByteArray := prog_5_method_4_code
def yX3_has : MethodName := ⟨RX3, "has", "(I)Z"⟩
abbrev cX3_stepsOf : ByteArray := prog_5_method_5_code
def yX3_stepsOf : MethodName := ⟨RX3, "stepsOf", "(I)I"⟩
abbrev cX3_slopeOf : ByteArray := prog_5_method_6_code
def yX3_slopeOf : MethodName := ⟨RX3, "slopeOf", "(I)I"⟩
abbrev cX3_isMuddy : ByteArray := prog_5_method_7_code
def yX3_isMuddy : MethodName := ⟨RX3, "isMuddy", "(I)Z"⟩
abbrev cX3_beatsToSing : ByteArray := prog_5_method_8_code
def yX3_beatsToSing : MethodName := ⟨RX3, "beatsToSing", "(II)I"⟩
abbrev cX3_allSteps : ByteArray := prog_5_method_9_code
def yX3_allSteps : MethodName := ⟨RX3, "allSteps", "()I"⟩
abbrev cX3_copyFrom : ByteArray := prog_5_method_10_code
def yX3_copyFrom : MethodName := ⟨RX3, "copyFrom", "(LMarchMetres$Road;)V"⟩
def RX4 : String := "MarchMetres$Settings"
def TX4 : u_T := fun k => match k with
  | _ => ("MarchMetres$Settings", "values", "[I", true)
def tyX4 : Nat → FieldType := fun k => match k with
  | _ => .array .int
abbrev wsX40 : List Cond := u_ws RX4 TX4 1
theorem nmX4 : ∀ a, a < 1 → ∀ b, b < 1 → a ≠ b → (TX4 a).2.1 ≠ (TX4 b).2.1 := by decide +kernel
theorem tyX4_ok : ∀ k, k < 1 → parseFieldDescriptor (TX4 k).2.2.1 = some (tyX4 k) := by decide +kernel
abbrev cX4_init : ByteArray := prog_6_method_1_code
def yX4_init : MethodName := ⟨RX4, "<init>", "()V"⟩
abbrev cX4_has : ByteArray := prog_6_method_2_code
def yX4_has : MethodName := ⟨RX4, "has", "(I)Z"⟩
abbrev cX4_allows : ByteArray := prog_6_method_3_code
def yX4_allows : MethodName := ⟨RX4, "allows", "(II)Z"⟩
abbrev cX4_valueOf : ByteArray := prog_6_method_4_code
def yX4_valueOf : MethodName := ⟨RX4, "valueOf", "(I)I"⟩
abbrev cX4_change : ByteArray := prog_6_method_5_code
def yX4_change : MethodName := ⟨RX4, "change", "(II)V"⟩
abbrev cX4_copyFrom : ByteArray := prog_6_method_6_code
def yX4_copyFrom : MethodName := ⟨RX4, "copyFrom", "(LMarchMetres$Settings;)V"⟩
def RX5 : String := "MarchMetres$Song"
def TX5 : u_T := fun k => match k with
  | 0 => ("MarchMetres$Song", "lines", "I", false)
  | 1 => ("MarchMetres$Song", "feet", "[I", true)
  | 2 => ("MarchMetres$Song", "beats", "[I", true)
  | _ => ("MarchMetres$Song", "marks", "[Z", true)
def tyX5 : Nat → FieldType := fun k => match k with
  | 0 => .int
  | 1 => .array .int
  | 2 => .array .int
  | _ => .array .boolean
abbrev wsX50 : List Cond := u_ws RX5 TX5 4
theorem nmX5 : ∀ a, a < 4 → ∀ b, b < 4 → a ≠ b → (TX5 a).2.1 ≠ (TX5 b).2.1 := by decide +kernel
theorem tyX5_ok : ∀ k, k < 4 → parseFieldDescriptor (TX5 k).2.2.1 = some (tyX5 k) := by decide +kernel
abbrev cX5_init : ByteArray := prog_7_method_1_code
def yX5_init : MethodName := ⟨RX5, "<init>", "()V"⟩
abbrev cX5_clear : ByteArray := prog_7_method_2_code
def yX5_clear : MethodName := ⟨RX5, "clear", "()V"⟩
abbrev cX5_addLine : ByteArray := prog_7_method_3_code
def yX5_addLine : MethodName := ⟨RX5, "addLine", "()V"⟩
abbrev cX5_addFoot : ByteArray := prog_7_method_4_code
def yX5_addFoot : MethodName := ⟨RX5, "addFoot", "(I)V"⟩
abbrev cX5_markLastFoot : ByteArray := prog_7_method_5_code
def yX5_markLastFoot : MethodName := ⟨RX5, "markLastFoot", "()V"⟩
abbrev cX5_hasLine : ByteArray := prog_7_method_6_code
def yX5_hasLine : MethodName := ⟨RX5, "hasLine", "(I)Z"⟩
abbrev cX5_hasFoot : ByteArray := prog_7_method_7_code
def yX5_hasFoot : MethodName := ⟨RX5, "hasFoot", "(II)Z"⟩
abbrev cX5_feetOf : ByteArray := prog_7_method_8_code
def yX5_feetOf : MethodName := ⟨RX5, "feetOf", "(I)I"⟩
abbrev cX5_beatsOf : ByteArray := prog_7_method_9_code
def yX5_beatsOf : MethodName := ⟨RX5, "beatsOf", "(II)I"⟩
abbrev cX5_isMarked : ByteArray := prog_7_method_10_code
def yX5_isMarked : MethodName := ⟨RX5, "isMarked", "(II)Z"⟩
abbrev cX5_beatsOfLine : ByteArray := prog_7_method_11_code
def yX5_beatsOfLine : MethodName := ⟨RX5, "beatsOfLine", "(I)I"⟩
abbrev cX5_marksOfLine : ByteArray := prog_7_method_12_code
def yX5_marksOfLine : MethodName := ⟨RX5, "marksOfLine", "(I)I"⟩
abbrev cX5_allBeats : ByteArray := prog_7_method_13_code
def yX5_allBeats : MethodName := ⟨RX5, "allBeats", "()I"⟩
abbrev cX5_allMarks : ByteArray := prog_7_method_14_code
def yX5_allMarks : MethodName := ⟨RX5, "allMarks", "()I"⟩
abbrev cX5_copyFrom : ByteArray := prog_7_method_15_code
def yX5_copyFrom : MethodName := ⟨RX5, "copyFrom", "(LMarchMetres$Song;)V"⟩
def RX6 : String := "MarchMetres$State"
def TX6 : u_T := fun k => match k with
  | 0 => ("MarchMetres$State", "settings", "LMarchMetres$Settings;", true)
  | 1 => ("MarchMetres$State", "song", "LMarchMetres$Song;", true)
  | 2 => ("MarchMetres$State", "road", "LMarchMetres$Road;", true)
  | _ => ("MarchMetres$State", "march", "LMarchMetres$March;", true)
def tyX6 : Nat → FieldType := fun k => match k with
  | 0 => .object "MarchMetres$Settings"
  | 1 => .object "MarchMetres$Song"
  | 2 => .object "MarchMetres$Road"
  | _ => .object "MarchMetres$March"
abbrev wsX60 : List Cond := u_ws RX6 TX6 4
theorem nmX6 : ∀ a, a < 4 → ∀ b, b < 4 → a ≠ b → (TX6 a).2.1 ≠ (TX6 b).2.1 := by decide +kernel
theorem tyX6_ok : ∀ k, k < 4 → parseFieldDescriptor (TX6 k).2.2.1 = some (tyX6 k) := by decide +kernel
abbrev cX6_init : ByteArray := prog_8_method_1_code
def yX6_init : MethodName := ⟨RX6, "<init>", "()V"⟩
abbrev cX6_startMarch : ByteArray := prog_8_method_2_code
def yX6_startMarch : MethodName := ⟨RX6, "startMarch", "()V"⟩
abbrev cX6_copyFrom : ByteArray := prog_8_method_3_code
def yX6_copyFrom : MethodName := ⟨RX6, "copyFrom", "(LMarchMetres$State;)V"⟩
def RX7 : String := "MarchMetres"
def TX7 : u_T := fun k => match k with
  | 0 => ("MarchMetres", "now", "LMarchMetres$State;", true)
  | 1 => ("MarchMetres", "slots", "[LMarchMetres$State;", true)
  | 2 => ("MarchMetres", "isSaved", "[Z", true)
  | 3 => ("MarchMetres", "history", "LMarchMetres$History;", true)
  | 4 => ("MarchMetres", "pad", "LMarchMetres$Pad;", true)
  | 5 => ("MarchMetres", "trial", "LMarchMetres$March;", true)
  | _ => ("MarchMetres", "trialSettings", "LMarchMetres$Settings;", true)
def tyX7 : Nat → FieldType := fun k => match k with
  | 0 => .object "MarchMetres$State"
  | 1 => .array (.object "MarchMetres$State")
  | 2 => .array .boolean
  | 3 => .object "MarchMetres$History"
  | 4 => .object "MarchMetres$Pad"
  | 5 => .object "MarchMetres$March"
  | _ => .object "MarchMetres$Settings"
abbrev wsX70 : List Cond := u_ws RX7 TX7 7
theorem nmX7 : ∀ a, a < 7 → ∀ b, b < 7 → a ≠ b → (TX7 a).2.1 ≠ (TX7 b).2.1 := by decide +kernel
theorem tyX7_ok : ∀ k, k < 7 → parseFieldDescriptor (TX7 k).2.2.1 = some (tyX7 k) := by decide +kernel
abbrev cX7_init : ByteArray := prog_1_method_1_code
def yX7_init : MethodName := ⟨RX7, "<init>", "()V"⟩
abbrev cX7_set : ByteArray := prog_1_method_2_code
def yX7_set : MethodName := ⟨RX7, "set", "(II)I"⟩
abbrev cX7_read : ByteArray := prog_1_method_3_code
def yX7_read : MethodName := ⟨RX7, "read", "()I"⟩
abbrev cX7_pave : ByteArray := prog_1_method_4_code
def yX7_pave : MethodName := ⟨RX7, "pave", "(IIZ)I"⟩
abbrev cX7_tear : ByteArray := prog_1_method_5_code
def yX7_tear : MethodName := ⟨RX7, "tear", "(I)I"⟩
abbrev cX7_begin : ByteArray := prog_1_method_6_code
def yX7_begin : MethodName := ⟨RX7, "begin", "()I"⟩
abbrev cX7_march : ByteArray := prog_1_method_7_code
def yX7_march : MethodName := ⟨RX7, "march", "(I)I"⟩
abbrev cX7_line : ByteArray := prog_1_method_8_code
def yX7_line : MethodName := ⟨RX7, "line", "(II)I"⟩
abbrev cX7_foot : ByteArray := prog_1_method_9_code
def yX7_foot : MethodName := ⟨RX7, "foot", "(III)I"⟩
abbrev cX7_stretch : ByteArray := prog_1_method_10_code
def yX7_stretch : MethodName := ⟨RX7, "stretch", "(II)I"⟩
abbrev cX7_walk : ByteArray := prog_1_method_11_code
def yX7_walk : MethodName := ⟨RX7, "walk", "(I)I"⟩
abbrev cX7_count : ByteArray := prog_1_method_12_code
def yX7_count : MethodName := ⟨RX7, "count", "(I)I"⟩
abbrev cX7_untilWalked : ByteArray := prog_1_method_13_code
def yX7_untilWalked : MethodName := ⟨RX7, "untilWalked", "(I)I"⟩
abbrev cX7_together : ByteArray := prog_1_method_14_code
def yX7_together : MethodName := ⟨RX7, "together", "()I"⟩
abbrev cX7_meets : ByteArray := prog_1_method_15_code
def yX7_meets : MethodName := ⟨RX7, "meets", "(II)I"⟩
abbrev cX7_leastBreath : ByteArray := prog_1_method_16_code
def yX7_leastBreath : MethodName := ⟨RX7, "leastBreath", "()I"⟩
abbrev cX7_bestPause : ByteArray := prog_1_method_17_code
def yX7_bestPause : MethodName := ⟨RX7, "bestPause", "()I"⟩
abbrev cX7_put : ByteArray := prog_1_method_18_code
def yX7_put : MethodName := ⟨RX7, "put", "(J)I"⟩
abbrev cX7_wipe : ByteArray := prog_1_method_19_code
def yX7_wipe : MethodName := ⟨RX7, "wipe", "()I"⟩
abbrev cX7_fault : ByteArray := prog_1_method_20_code
def yX7_fault : MethodName := ⟨RX7, "fault", "()I"⟩
abbrev cX7_undo : ByteArray := prog_1_method_21_code
def yX7_undo : MethodName := ⟨RX7, "undo", "()I"⟩
abbrev cX7_save : ByteArray := prog_1_method_22_code
def yX7_save : MethodName := ⟨RX7, "save", "(I)I"⟩
abbrev cX7_restore : ByteArray := prog_1_method_23_code
def yX7_restore : MethodName := ⟨RX7, "restore", "(I)I"⟩
abbrev cX7_isReady : ByteArray := prog_1_method_24_code
def yX7_isReady : MethodName := ⟨RX7, "isReady", "()Z"⟩
abbrev cX7_isSlot : ByteArray := prog_1_method_25_code
def yX7_isSlot : MethodName := ⟨RX7, "isSlot", "(I)Z"⟩
abbrev cX7_songsByCounting : ByteArray := prog_1_method_26_code
def yX7_songsByCounting : MethodName := ⟨RX7, "songsByCounting", "(II)I"⟩
abbrev cX7_songsAtOnce : ByteArray := prog_1_method_27_code
def yX7_songsAtOnce : MethodName := ⟨RX7, "songsAtOnce", "(II)I"⟩
abbrev cX7_greatestShared : ByteArray := prog_1_method_28_code
def yX7_greatestShared : MethodName := ⟨RX7, "greatestShared", "(II)I"⟩
def RX8 : String := "MarchMetresModel"
def TX8 : u_T := fun k => match k with
  | 0 => ("MarchMetresModel", "z", "[I", true)
  | 1 => ("MarchMetresModel", "spare", "[I", true)
  | 2 => ("MarchMetresModel", "past", "[I", true)
  | 3 => ("MarchMetresModel", "states", "I", false)
  | 4 => ("MarchMetresModel", "slots", "[I", true)
  | 5 => ("MarchMetresModel", "isSaved", "[Z", true)
  | 6 => ("MarchMetresModel", "pad", "[I", true)
  | 7 => ("MarchMetresModel", "typed", "I", false)
  | 8 => ("MarchMetresModel", "songEnded", "Z", false)
  | 9 => ("MarchMetresModel", "stretchEnded", "Z", false)
  | 10 => ("MarchMetresModel", "spot", "I", false)
  | 11 => ("MarchMetresModel", "toldFeet", "[I", true)
  | 12 => ("MarchMetresModel", "toldMany", "[I", true)
  | _ => ("MarchMetresModel", "toldLines", "I", false)
def tyX8 : Nat → FieldType := fun k => match k with
  | 0 => .array .int
  | 1 => .array .int
  | 2 => .array .int
  | 3 => .int
  | 4 => .array .int
  | 5 => .array .boolean
  | 6 => .array .int
  | 7 => .int
  | 8 => .boolean
  | 9 => .boolean
  | 10 => .int
  | 11 => .array .int
  | 12 => .array .int
  | _ => .int
abbrev wsX80 : List Cond := u_ws RX8 TX8 14
theorem nmX8 : ∀ a, a < 14 → ∀ b, b < 14 → a ≠ b → (TX8 a).2.1 ≠ (TX8 b).2.1 := by decide +kernel
theorem tyX8_ok : ∀ k, k < 14 → parseFieldDescriptor (TX8 k).2.2.1 = some (tyX8 k) := by decide +kernel
abbrev cX8_init : ByteArray := prog_10_method_1_code
def yX8_init : MethodName := ⟨RX8, "<init>", "()V"⟩
abbrev cX8_in : ByteArray := prog_10_method_2_code
def yX8_in : MethodName := ⟨RX8, "in", "(III)Z"⟩
abbrev cX8_ofStretch : ByteArray := prog_10_method_3_code
def yX8_ofStretch : MethodName := ⟨RX8, "ofStretch", "(II)I"⟩
abbrev cX8_isStretch : ByteArray := prog_10_method_4_code
def yX8_isStretch : MethodName := ⟨RX8, "isStretch", "(I)Z"⟩
abbrev cX8_isLine : ByteArray := prog_10_method_5_code
def yX8_isLine : MethodName := ⟨RX8, "isLine", "(I)Z"⟩
abbrev cX8_beatsOf : ByteArray := prog_10_method_6_code
def yX8_beatsOf : MethodName := ⟨RX8, "beatsOf", "(II)I"⟩
abbrev cX8_hasMark : ByteArray := prog_10_method_7_code
def yX8_hasMark : MethodName := ⟨RX8, "hasMark", "(II)Z"⟩
abbrev cX8_canMarch : ByteArray := prog_10_method_8_code
def yX8_canMarch : MethodName := ⟨RX8, "canMarch", "()Z"⟩
abbrev cX8_copyState : ByteArray := prog_10_method_9_code
def yX8_copyState : MethodName := ⟨RX8, "copyState", "([II[II)V"⟩
abbrev cX8_record : ByteArray := prog_10_method_10_code
def yX8_record : MethodName := ⟨RX8, "record", "()V"⟩
abbrev cX8_undo : ByteArray := prog_10_method_11_code
def yX8_undo : MethodName := ⟨RX8, "undo", "()I"⟩
abbrev cX8_save : ByteArray := prog_10_method_12_code
def yX8_save : MethodName := ⟨RX8, "save", "(I)I"⟩
abbrev cX8_restore : ByteArray := prog_10_method_13_code
def yX8_restore : MethodName := ⟨RX8, "restore", "(I)I"⟩
abbrev cX8_beginNow : ByteArray := prog_10_method_14_code
def yX8_beginNow : MethodName := ⟨RX8, "beginNow", "()V"⟩
abbrev cX8_climb : ByteArray := prog_10_method_15_code
def yX8_climb : MethodName := ⟨RX8, "climb", "()I"⟩
abbrev cX8_step : ByteArray := prog_10_method_16_code
def yX8_step : MethodName := ⟨RX8, "step", "()V"⟩
abbrev cX8_goOn : ByteArray := prog_10_method_17_code
def yX8_goOn : MethodName := ⟨RX8, "goOn", "()V"⟩
abbrev cX8_beat : ByteArray := prog_10_method_18_code
def yX8_beat : MethodName := ⟨RX8, "beat", "()V"⟩
abbrev cX8_marchNow : ByteArray := prog_10_method_19_code
def yX8_marchNow : MethodName := ⟨RX8, "marchNow", "(I)I"⟩
abbrev cX8_march : ByteArray := prog_10_method_20_code
def yX8_march : MethodName := ⟨RX8, "march", "(I)I"⟩
abbrev cX8_begin : ByteArray := prog_10_method_21_code
def yX8_begin : MethodName := ⟨RX8, "begin", "()I"⟩
abbrev cX8_isValue : ByteArray := prog_10_method_22_code
def yX8_isValue : MethodName := ⟨RX8, "isValue", "(II)Z"⟩
abbrev cX8_set : ByteArray := prog_10_method_23_code
def yX8_set : MethodName := ⟨RX8, "set", "(II)I"⟩
abbrev cX8_pave : ByteArray := prog_10_method_24_code
def yX8_pave : MethodName := ⟨RX8, "pave", "(IIZ)I"⟩
abbrev cX8_tear : ByteArray := prog_10_method_25_code
def yX8_tear : MethodName := ⟨RX8, "tear", "(I)I"⟩
abbrev cX8_put : ByteArray := prog_10_method_26_code
def yX8_put : MethodName := ⟨RX8, "put", "(J)I"⟩
abbrev cX8_wipe : ByteArray := prog_10_method_27_code
def yX8_wipe : MethodName := ⟨RX8, "wipe", "()I"⟩
abbrev cX8_takes : ByteArray := prog_10_method_28_code
def yX8_takes : MethodName := ⟨RX8, "takes", "(I)Z"⟩
abbrev cX8_readFoot : ByteArray := prog_10_method_29_code
def yX8_readFoot : MethodName := ⟨RX8, "readFoot", "()Z"⟩
abbrev cX8_readLine : ByteArray := prog_10_method_30_code
def yX8_readLine : MethodName := ⟨RX8, "readLine", "()Z"⟩
abbrev cX8_readPad : ByteArray := prog_10_method_31_code
def yX8_readPad : MethodName := ⟨RX8, "readPad", "()Z"⟩
abbrev cX8_fault : ByteArray := prog_10_method_32_code
def yX8_fault : MethodName := ⟨RX8, "fault", "()I"⟩
abbrev cX8_read : ByteArray := prog_10_method_33_code
def yX8_read : MethodName := ⟨RX8, "read", "()I"⟩
abbrev cX8_sungIn : ByteArray := prog_10_method_34_code
def yX8_sungIn : MethodName := ⟨RX8, "sungIn", "(I)I"⟩
abbrev cX8_marksIn : ByteArray := prog_10_method_35_code
def yX8_marksIn : MethodName := ⟨RX8, "marksIn", "(I)I"⟩
abbrev cX8_line : ByteArray := prog_10_method_36_code
def yX8_line : MethodName := ⟨RX8, "line", "(II)I"⟩
abbrev cX8_foot : ByteArray := prog_10_method_37_code
def yX8_foot : MethodName := ⟨RX8, "foot", "(III)I"⟩
abbrev cX8_sungFor : ByteArray := prog_10_method_38_code
def yX8_sungFor : MethodName := ⟨RX8, "sungFor", "(IZ)I"⟩
abbrev cX8_stretch : ByteArray := prog_10_method_39_code
def yX8_stretch : MethodName := ⟨RX8, "stretch", "(II)I"⟩
abbrev cX8_walk : ByteArray := prog_10_method_40_code
def yX8_walk : MethodName := ⟨RX8, "walk", "(I)I"⟩
abbrev cX8_sungInSong : ByteArray := prog_10_method_41_code
def yX8_sungInSong : MethodName := ⟨RX8, "sungInSong", "()I"⟩
abbrev cX8_marksInSong : ByteArray := prog_10_method_42_code
def yX8_marksInSong : MethodName := ⟨RX8, "marksInSong", "()I"⟩
abbrev cX8_stepsOfRoad : ByteArray := prog_10_method_43_code
def yX8_stepsOfRoad : MethodName := ⟨RX8, "stepsOfRoad", "()I"⟩
abbrev cX8_count : ByteArray := prog_10_method_44_code
def yX8_count : MethodName := ⟨RX8, "count", "(I)I"⟩
abbrev cX8_untilWalked : ByteArray := prog_10_method_45_code
def yX8_untilWalked : MethodName := ⟨RX8, "untilWalked", "(I)I"⟩
abbrev cX8_together : ByteArray := prog_10_method_46_code
def yX8_together : MethodName := ⟨RX8, "together", "()I"⟩
abbrev cX8_meets : ByteArray := prog_10_method_47_code
def yX8_meets : MethodName := ⟨RX8, "meets", "(II)I"⟩
abbrev cX8_isWalkedAnew : ByteArray := prog_10_method_48_code
def yX8_isWalkedAnew : MethodName := ⟨RX8, "isWalkedAnew", "()Z"⟩
abbrev cX8_leastBreath : ByteArray := prog_10_method_49_code
def yX8_leastBreath : MethodName := ⟨RX8, "leastBreath", "()I"⟩
abbrev cX8_bestPause : ByteArray := prog_10_method_50_code
def yX8_bestPause : MethodName := ⟨RX8, "bestPause", "()I"⟩
def RJ9 : String := "java/lang/Math"
def TJ9 : u_T := fun k => match k with
  | _ => ("", "", "", false)
def tyJ9 : Nat → FieldType := fun k => match k with
  | _ => .int
abbrev wsJ90 : List Cond := u_ws RJ9 TJ9 0
theorem nmJ9 : ∀ a, a < 0 → ∀ b, b < 0 → a ≠ b → (TJ9 a).2.1 ≠ (TJ9 b).2.1 := by decide +kernel
theorem tyJ9_ok : ∀ k, k < 0 → parseFieldDescriptor (TJ9 k).2.2.1 = some (tyJ9 k) := by decide +kernel
abbrev cJ9_floorMod_7cf53 : ByteArray := prog_11_method_50_code
def yJ9_floorMod_7cf53 : MethodName := ⟨RJ9, "floorMod", "(II)I"⟩
abbrev cJ9_max_7cf53 : ByteArray := prog_11_method_65_code
def yJ9_max_7cf53 : MethodName := ⟨RJ9, "max", "(II)I"⟩
abbrev cJ9_min_7cf53 : ByteArray := prog_11_method_69_code
def yJ9_min_7cf53 : MethodName := ⟨RJ9, "min", "(II)I"⟩
def RL : String := "MarchMetresLaw"
abbrev cL_law : ByteArray := code
def yL_law : MethodName := ⟨RL, "law", "([I)Z"⟩
def wsJ9_floorMod_7cf53 : List Cond := .code yJ9_floorMod_7cf53 cJ9_floorMod_7cf53 3 (some .int) :: ([])
def wsJ9_max_7cf53 : List Cond := .code yJ9_max_7cf53 cJ9_max_7cf53 2 (some .int) :: ([])
def wsJ9_min_7cf53 : List Cond := .code yJ9_min_7cf53 cJ9_min_7cf53 2 (some .int) :: ([])
abbrev vwCl : List vw_C := [(RX0, TX0, 3), (RX1, TX1, 15), (RX2, TX2, 2), (RX3, TX3, 4), (RX4, TX4, 1), (RX5, TX5, 4), (RX6, TX6, 4), (RX7, TX7, 7), (RX8, TX8, 14)]
def wsL_law : List Cond := lw_tbl.filter goodWord
theorem wsL_law_in : ∀ w ∈ wsL_law, w ∈ lw_tbl := fun _ h => (List.mem_filter.mp h).1
theorem xw_0 : ∀ w ∈ k2_sels lw_privs, goodWord w = true → w ∈ wsL_law := fun _ h g => List.mem_filter.mpr ⟨List.mem_append_left _ h, g⟩
theorem xw_1 : ∀ w ∈ tables_1_1, goodWord w = true → w ∈ wsL_law := fun _ h g => List.mem_filter.mpr ⟨List.mem_append_right _ (List.mem_append_left _ h), g⟩
theorem xw_2 : ∀ w ∈ tables_1_2, goodWord w = true → w ∈ wsL_law := fun _ h g => List.mem_filter.mpr ⟨List.mem_append_right _ (List.mem_append_right _ (List.mem_append_left _ h)), g⟩
theorem xw_3 : ∀ w ∈ tables_1_3, goodWord w = true → w ∈ wsL_law := fun _ h g => List.mem_filter.mpr ⟨List.mem_append_right _ (List.mem_append_right _ (List.mem_append_right _ (List.mem_append_left _ h))), g⟩
theorem xw_4 : ∀ w ∈ tables_1_4, goodWord w = true → w ∈ wsL_law := fun _ h g => List.mem_filter.mpr ⟨List.mem_append_right _ (List.mem_append_right _ (List.mem_append_right _ (List.mem_append_right _ h))), g⟩
theorem mw_1_11 : Cond.classLink RL 7 RX7 ∈ wsL_law := xw_1 _ (List.mem_of_getElem? (i := 11) rfl) rfl
theorem mw_1_12 : Cond.instantiable RX7 7 ∈ wsL_law := xw_1 _ (List.mem_of_getElem? (i := 12) rfl) rfl
theorem mw_1_1 : Cond.initialized RX7 ∈ wsL_law := xw_1 _ (List.mem_of_getElem? (i := 1) rfl) rfl
theorem mw_3_75 : Cond.classLink RL 10 RX8 ∈ wsL_law := xw_3 _ (List.mem_of_getElem? (i := 75) rfl) rfl
theorem mw_3_76 : Cond.instantiable RX8 14 ∈ wsL_law := xw_3 _ (List.mem_of_getElem? (i := 76) rfl) rfl
theorem mw_1_9 : Cond.initialized RX8 ∈ wsL_law := xw_1 _ (List.mem_of_getElem? (i := 9) rfl) rfl
theorem mw_4_78 : Cond.constantLong RL 82 (4294967295) ∈ wsL_law := xw_4 _ (List.mem_of_getElem? (i := 78) rfl) rfl
theorem mw_1_13 : Cond.methodLink RL 9 yX7_init ∈ wsL_law := xw_1 _ (List.mem_of_getElem? (i := 13) rfl) rfl
theorem mw_1_14 : Cond.instanceMethod yX7_init ∈ wsL_law := xw_1 _ (List.mem_of_getElem? (i := 14) rfl) rfl
theorem mw_1_15 : Cond.code yX7_init cX7_init 2 none ∈ wsL_law := xw_1 _ (List.mem_of_getElem? (i := 15) rfl) rfl
theorem mw_1_16 : Cond.methodLink RX7 3 objectInit ∈ wsL_law := xw_1 _ (List.mem_of_getElem? (i := 16) rfl) rfl
theorem mw_1_17 : Cond.instanceMethod objectInit ∈ wsL_law := xw_1 _ (List.mem_of_getElem? (i := 17) rfl) rfl
theorem mw_1_18 : Cond.code objectInit ⟨#[0xb1]⟩ 1 none ∈ wsL_law := xw_1 _ (List.mem_of_getElem? (i := 18) rfl) rfl
theorem mw_1_19 : Cond.classLink RX7 9 RX6 ∈ wsL_law := xw_1 _ (List.mem_of_getElem? (i := 19) rfl) rfl
theorem mw_1_20 : Cond.instantiable RX6 4 ∈ wsL_law := xw_1 _ (List.mem_of_getElem? (i := 20) rfl) rfl
theorem mw_1_2 : Cond.initialized RX6 ∈ wsL_law := xw_1 _ (List.mem_of_getElem? (i := 2) rfl) rfl
theorem mw_1_217 : Cond.fieldLink RX7 12 "MarchMetres" "now" "LMarchMetres$State;" ∈ wsL_law := xw_1 _ (List.mem_of_getElem? (i := 217) rfl) rfl
theorem mw_1_218 : Cond.fieldLink RX7 16 "MarchMetres" "slots" "[LMarchMetres$State;" ∈ wsL_law := xw_1 _ (List.mem_of_getElem? (i := 218) rfl) rfl
theorem mw_1_59 : Cond.arrayClass .boolean ∈ wsL_law := xw_1 _ (List.mem_of_getElem? (i := 59) rfl) rfl
theorem mw_1_219 : Cond.fieldLink RX7 20 "MarchMetres" "isSaved" "[Z" ∈ wsL_law := xw_1 _ (List.mem_of_getElem? (i := 219) rfl) rfl
theorem mw_1_165 : Cond.classLink RX7 24 RX0 ∈ wsL_law := xw_1 _ (List.mem_of_getElem? (i := 165) rfl) rfl
theorem mw_1_166 : Cond.instantiable RX0 3 ∈ wsL_law := xw_1 _ (List.mem_of_getElem? (i := 166) rfl) rfl
theorem mw_1_7 : Cond.initialized RX0 ∈ wsL_law := xw_1 _ (List.mem_of_getElem? (i := 7) rfl) rfl
theorem mw_1_220 : Cond.fieldLink RX7 27 "MarchMetres" "history" "LMarchMetres$History;" ∈ wsL_law := xw_1 _ (List.mem_of_getElem? (i := 220) rfl) rfl
theorem mw_1_184 : Cond.classLink RX7 31 RX2 ∈ wsL_law := xw_1 _ (List.mem_of_getElem? (i := 184) rfl) rfl
theorem mw_1_185 : Cond.instantiable RX2 2 ∈ wsL_law := xw_1 _ (List.mem_of_getElem? (i := 185) rfl) rfl
theorem mw_1_8 : Cond.initialized RX2 ∈ wsL_law := xw_1 _ (List.mem_of_getElem? (i := 8) rfl) rfl
theorem mw_1_221 : Cond.fieldLink RX7 34 "MarchMetres" "pad" "LMarchMetres$Pad;" ∈ wsL_law := xw_1 _ (List.mem_of_getElem? (i := 221) rfl) rfl
theorem mw_1_198 : Cond.classLink RX7 38 RX1 ∈ wsL_law := xw_1 _ (List.mem_of_getElem? (i := 198) rfl) rfl
theorem mw_1_82 : Cond.instantiable RX1 15 ∈ wsL_law := xw_1 _ (List.mem_of_getElem? (i := 82) rfl) rfl
theorem mw_1_6 : Cond.initialized RX1 ∈ wsL_law := xw_1 _ (List.mem_of_getElem? (i := 6) rfl) rfl
theorem mw_1_222 : Cond.fieldLink RX7 41 "MarchMetres" "trial" "LMarchMetres$March;" ∈ wsL_law := xw_1 _ (List.mem_of_getElem? (i := 222) rfl) rfl
theorem mw_1_200 : Cond.classLink RX7 45 RX4 ∈ wsL_law := xw_1 _ (List.mem_of_getElem? (i := 200) rfl) rfl
theorem mw_1_26 : Cond.instantiable RX4 1 ∈ wsL_law := xw_1 _ (List.mem_of_getElem? (i := 26) rfl) rfl
theorem mw_1_3 : Cond.initialized RX4 ∈ wsL_law := xw_1 _ (List.mem_of_getElem? (i := 3) rfl) rfl
theorem mw_1_223 : Cond.fieldLink RX7 48 "MarchMetres" "trialSettings" "LMarchMetres$Settings;" ∈ wsL_law := xw_1 _ (List.mem_of_getElem? (i := 223) rfl) rfl
theorem mw_1_22 : Cond.instanceMethod yX6_init ∈ wsL_law := xw_1 _ (List.mem_of_getElem? (i := 22) rfl) rfl
theorem mw_1_23 : Cond.code yX6_init cX6_init 1 none ∈ wsL_law := xw_1 _ (List.mem_of_getElem? (i := 23) rfl) rfl
theorem mw_1_24 : Cond.methodLink RX6 3 objectInit ∈ wsL_law := xw_1 _ (List.mem_of_getElem? (i := 24) rfl) rfl
theorem mw_1_25 : Cond.classLink RX6 9 RX4 ∈ wsL_law := xw_1 _ (List.mem_of_getElem? (i := 25) rfl) rfl
theorem mw_1_147 : Cond.fieldLink RX6 12 "MarchMetres$State" "settings" "LMarchMetres$Settings;" ∈ wsL_law := xw_1 _ (List.mem_of_getElem? (i := 147) rfl) rfl
theorem mw_1_38 : Cond.classLink RX6 18 RX5 ∈ wsL_law := xw_1 _ (List.mem_of_getElem? (i := 38) rfl) rfl
theorem mw_1_39 : Cond.instantiable RX5 4 ∈ wsL_law := xw_1 _ (List.mem_of_getElem? (i := 39) rfl) rfl
theorem mw_1_4 : Cond.initialized RX5 ∈ wsL_law := xw_1 _ (List.mem_of_getElem? (i := 4) rfl) rfl
theorem mw_1_149 : Cond.fieldLink RX6 21 "MarchMetres$State" "song" "LMarchMetres$Song;" ∈ wsL_law := xw_1 _ (List.mem_of_getElem? (i := 149) rfl) rfl
theorem mw_1_60 : Cond.classLink RX6 25 RX3 ∈ wsL_law := xw_1 _ (List.mem_of_getElem? (i := 60) rfl) rfl
theorem mw_1_61 : Cond.instantiable RX3 4 ∈ wsL_law := xw_1 _ (List.mem_of_getElem? (i := 61) rfl) rfl
theorem mw_1_5 : Cond.initialized RX3 ∈ wsL_law := xw_1 _ (List.mem_of_getElem? (i := 5) rfl) rfl
theorem mw_1_151 : Cond.fieldLink RX6 28 "MarchMetres$State" "road" "LMarchMetres$Road;" ∈ wsL_law := xw_1 _ (List.mem_of_getElem? (i := 151) rfl) rfl
theorem mw_1_81 : Cond.classLink RX6 32 RX1 ∈ wsL_law := xw_1 _ (List.mem_of_getElem? (i := 81) rfl) rfl
theorem mw_1_153 : Cond.fieldLink RX6 35 "MarchMetres$State" "march" "LMarchMetres$March;" ∈ wsL_law := xw_1 _ (List.mem_of_getElem? (i := 153) rfl) rfl
theorem mw_1_27 : Cond.methodLink RX6 11 yX4_init ∈ wsL_law := xw_1 _ (List.mem_of_getElem? (i := 27) rfl) rfl
theorem mw_1_28 : Cond.instanceMethod yX4_init ∈ wsL_law := xw_1 _ (List.mem_of_getElem? (i := 28) rfl) rfl
theorem mw_1_29 : Cond.code yX4_init cX4_init 2 none ∈ wsL_law := xw_1 _ (List.mem_of_getElem? (i := 29) rfl) rfl
theorem mw_1_30 : Cond.methodLink RX4 3 objectInit ∈ wsL_law := xw_1 _ (List.mem_of_getElem? (i := 30) rfl) rfl
theorem mw_1_37 : Cond.arrayClass .int ∈ wsL_law := xw_1 _ (List.mem_of_getElem? (i := 37) rfl) rfl
theorem mw_1_33 : Cond.fieldLink RX4 9 "MarchMetres$Settings" "values" "[I" ∈ wsL_law := xw_1 _ (List.mem_of_getElem? (i := 33) rfl) rfl
theorem mw_1_41 : Cond.instanceMethod yX5_init ∈ wsL_law := xw_1 _ (List.mem_of_getElem? (i := 41) rfl) rfl
theorem mw_1_42 : Cond.code yX5_init cX5_init 1 none ∈ wsL_law := xw_1 _ (List.mem_of_getElem? (i := 42) rfl) rfl
theorem mw_1_43 : Cond.methodLink RX5 3 objectInit ∈ wsL_law := xw_1 _ (List.mem_of_getElem? (i := 43) rfl) rfl
theorem mw_1_47 : Cond.fieldLink RX5 9 "MarchMetres$Song" "feet" "[I" ∈ wsL_law := xw_1 _ (List.mem_of_getElem? (i := 47) rfl) rfl
theorem mw_1_48 : Cond.fieldLink RX5 15 "MarchMetres$Song" "beats" "[I" ∈ wsL_law := xw_1 _ (List.mem_of_getElem? (i := 48) rfl) rfl
theorem mw_1_49 : Cond.fieldLink RX5 18 "MarchMetres$Song" "marks" "[Z" ∈ wsL_law := xw_1 _ (List.mem_of_getElem? (i := 49) rfl) rfl
theorem mw_1_63 : Cond.instanceMethod yX3_init ∈ wsL_law := xw_1 _ (List.mem_of_getElem? (i := 63) rfl) rfl
theorem mw_1_64 : Cond.code yX3_init cX3_init 1 none ∈ wsL_law := xw_1 _ (List.mem_of_getElem? (i := 64) rfl) rfl
theorem mw_1_65 : Cond.methodLink RX3 3 objectInit ∈ wsL_law := xw_1 _ (List.mem_of_getElem? (i := 65) rfl) rfl
theorem mw_1_69 : Cond.fieldLink RX3 9 "MarchMetres$Road" "steps" "[I" ∈ wsL_law := xw_1 _ (List.mem_of_getElem? (i := 69) rfl) rfl
theorem mw_1_70 : Cond.fieldLink RX3 15 "MarchMetres$Road" "slopes" "[I" ∈ wsL_law := xw_1 _ (List.mem_of_getElem? (i := 70) rfl) rfl
theorem mw_1_71 : Cond.fieldLink RX3 18 "MarchMetres$Road" "muds" "[Z" ∈ wsL_law := xw_1 _ (List.mem_of_getElem? (i := 71) rfl) rfl
theorem mw_1_84 : Cond.instanceMethod yX1_init ∈ wsL_law := xw_1 _ (List.mem_of_getElem? (i := 84) rfl) rfl
theorem mw_1_85 : Cond.code yX1_init cX1_init 1 none ∈ wsL_law := xw_1 _ (List.mem_of_getElem? (i := 85) rfl) rfl
theorem mw_1_86 : Cond.methodLink RX1 3 objectInit ∈ wsL_law := xw_1 _ (List.mem_of_getElem? (i := 86) rfl) rfl
theorem mw_1_167 : Cond.methodLink RX7 26 yX0_init ∈ wsL_law := xw_1 _ (List.mem_of_getElem? (i := 167) rfl) rfl
theorem mw_1_168 : Cond.instanceMethod yX0_init ∈ wsL_law := xw_1 _ (List.mem_of_getElem? (i := 168) rfl) rfl
theorem mw_1_169 : Cond.code yX0_init cX0_init 2 none ∈ wsL_law := xw_1 _ (List.mem_of_getElem? (i := 169) rfl) rfl
theorem mw_1_170 : Cond.methodLink RX0 3 objectInit ∈ wsL_law := xw_1 _ (List.mem_of_getElem? (i := 170) rfl) rfl
theorem mw_1_171 : Cond.classLink RX0 9 RX6 ∈ wsL_law := xw_1 _ (List.mem_of_getElem? (i := 171) rfl) rfl
theorem mw_1_173 : Cond.fieldLink RX0 11 "MarchMetres$History" "states" "[LMarchMetres$State;" ∈ wsL_law := xw_1 _ (List.mem_of_getElem? (i := 173) rfl) rfl
theorem mw_1_187 : Cond.instanceMethod yX2_init ∈ wsL_law := xw_1 _ (List.mem_of_getElem? (i := 187) rfl) rfl
theorem mw_1_188 : Cond.code yX2_init cX2_init 1 none ∈ wsL_law := xw_1 _ (List.mem_of_getElem? (i := 188) rfl) rfl
theorem mw_1_189 : Cond.methodLink RX2 3 objectInit ∈ wsL_law := xw_1 _ (List.mem_of_getElem? (i := 189) rfl) rfl
theorem mw_1_190 : Cond.fieldLink RX2 9 "MarchMetres$Pad" "codes" "[I" ∈ wsL_law := xw_1 _ (List.mem_of_getElem? (i := 190) rfl) rfl
theorem mw_1_201 : Cond.methodLink RX7 47 yX4_init ∈ wsL_law := xw_1 _ (List.mem_of_getElem? (i := 201) rfl) rfl
theorem mw_1_202 : Cond.methodLink RX7 52 yX6_startMarch ∈ wsL_law := xw_1 _ (List.mem_of_getElem? (i := 202) rfl) rfl
theorem mw_1_203 : Cond.instanceMethod yX6_startMarch ∈ wsL_law := xw_1 _ (List.mem_of_getElem? (i := 203) rfl) rfl
theorem mw_1_204 : Cond.selects RX6 yX6_startMarch yX6_startMarch ∈ wsL_law := xw_1 _ (List.mem_of_getElem? (i := 204) rfl) rfl
theorem mw_1_205 : Cond.code yX6_startMarch cX6_startMarch 1 none ∈ wsL_law := xw_1 _ (List.mem_of_getElem? (i := 205) rfl) rfl
theorem mw_1_206 : Cond.methodLink RX6 39 yX4_valueOf ∈ wsL_law := xw_1 _ (List.mem_of_getElem? (i := 206) rfl) rfl
theorem mw_1_207 : Cond.instanceMethod yX4_valueOf ∈ wsL_law := xw_1 _ (List.mem_of_getElem? (i := 207) rfl) rfl
theorem mw_1_208 : Cond.selects RX4 yX4_valueOf yX4_valueOf ∈ wsL_law := xw_1 _ (List.mem_of_getElem? (i := 208) rfl) rfl
theorem mw_1_209 : Cond.code yX4_valueOf cX4_valueOf 2 (some .int) ∈ wsL_law := xw_1 _ (List.mem_of_getElem? (i := 209) rfl) rfl
theorem mw_1_210 : Cond.methodLink RX4 18 yX4_has ∈ wsL_law := xw_1 _ (List.mem_of_getElem? (i := 210) rfl) rfl
theorem mw_1_211 : Cond.static yX4_has ∈ wsL_law := xw_1 _ (List.mem_of_getElem? (i := 211) rfl) rfl
theorem mw_1_212 : Cond.code yX4_has cX4_has 1 (some .boolean) ∈ wsL_law := xw_1 _ (List.mem_of_getElem? (i := 212) rfl) rfl
theorem mw_1_213 : Cond.methodLink RX6 43 yX1_startAnew ∈ wsL_law := xw_1 _ (List.mem_of_getElem? (i := 213) rfl) rfl
theorem mw_1_214 : Cond.instanceMethod yX1_startAnew ∈ wsL_law := xw_1 _ (List.mem_of_getElem? (i := 214) rfl) rfl
theorem mw_1_215 : Cond.selects RX1 yX1_startAnew yX1_startAnew ∈ wsL_law := xw_1 _ (List.mem_of_getElem? (i := 215) rfl) rfl
theorem mw_1_216 : Cond.code yX1_startAnew cX1_startAnew 2 none ∈ wsL_law := xw_1 _ (List.mem_of_getElem? (i := 216) rfl) rfl
theorem mw_1_87 : Cond.fieldLink RX1 9 "MarchMetres$March" "beats" "I" ∈ wsL_law := xw_1 _ (List.mem_of_getElem? (i := 87) rfl) rfl
theorem mw_1_89 : Cond.fieldLink RX1 15 "MarchMetres$March" "ticks" "I" ∈ wsL_law := xw_1 _ (List.mem_of_getElem? (i := 89) rfl) rfl
theorem mw_1_91 : Cond.fieldLink RX1 18 "MarchMetres$March" "line" "I" ∈ wsL_law := xw_1 _ (List.mem_of_getElem? (i := 91) rfl) rfl
theorem mw_1_93 : Cond.fieldLink RX1 21 "MarchMetres$March" "foot" "I" ∈ wsL_law := xw_1 _ (List.mem_of_getElem? (i := 93) rfl) rfl
theorem mw_1_95 : Cond.fieldLink RX1 24 "MarchMetres$March" "beat" "I" ∈ wsL_law := xw_1 _ (List.mem_of_getElem? (i := 95) rfl) rfl
theorem mw_1_97 : Cond.fieldLink RX1 27 "MarchMetres$March" "stretch" "I" ∈ wsL_law := xw_1 _ (List.mem_of_getElem? (i := 97) rfl) rfl
theorem mw_1_99 : Cond.fieldLink RX1 30 "MarchMetres$March" "steps" "I" ∈ wsL_law := xw_1 _ (List.mem_of_getElem? (i := 99) rfl) rfl
theorem mw_1_101 : Cond.fieldLink RX1 33 "MarchMetres$March" "sungOnStretch" "I" ∈ wsL_law := xw_1 _ (List.mem_of_getElem? (i := 101) rfl) rfl
theorem mw_1_102 : Cond.fieldLink RX1 36 "MarchMetres$March" "breath" "I" ∈ wsL_law := xw_1 _ (List.mem_of_getElem? (i := 102) rfl) rfl
theorem mw_1_104 : Cond.fieldLink RX1 39 "MarchMetres$March" "pauseLeft" "I" ∈ wsL_law := xw_1 _ (List.mem_of_getElem? (i := 104) rfl) rfl
theorem mw_1_106 : Cond.fieldLink RX1 42 "MarchMetres$March" "allSteps" "I" ∈ wsL_law := xw_1 _ (List.mem_of_getElem? (i := 106) rfl) rfl
theorem mw_1_108 : Cond.fieldLink RX1 45 "MarchMetres$March" "skipped" "I" ∈ wsL_law := xw_1 _ (List.mem_of_getElem? (i := 108) rfl) rfl
theorem mw_1_110 : Cond.fieldLink RX1 48 "MarchMetres$March" "gasps" "I" ∈ wsL_law := xw_1 _ (List.mem_of_getElem? (i := 110) rfl) rfl
theorem mw_1_112 : Cond.fieldLink RX1 51 "MarchMetres$March" "songs" "I" ∈ wsL_law := xw_1 _ (List.mem_of_getElem? (i := 112) rfl) rfl
theorem mw_1_114 : Cond.fieldLink RX1 54 "MarchMetres$March" "sung" "I" ∈ wsL_law := xw_1 _ (List.mem_of_getElem? (i := 114) rfl) rfl
theorem mw_3_77 : Cond.methodLink RL 12 yX8_init ∈ wsL_law := xw_3 _ (List.mem_of_getElem? (i := 77) rfl) rfl
theorem mw_3_78 : Cond.instanceMethod yX8_init ∈ wsL_law := xw_3 _ (List.mem_of_getElem? (i := 78) rfl) rfl
theorem mw_3_79 : Cond.code yX8_init cX8_init 1 none ∈ wsL_law := xw_3 _ (List.mem_of_getElem? (i := 79) rfl) rfl
theorem mw_3_80 : Cond.methodLink RX8 1 objectInit ∈ wsL_law := xw_3 _ (List.mem_of_getElem? (i := 80) rfl) rfl
theorem mw_3_85 : Cond.fieldLink RX8 7 "MarchMetresModel" "z" "[I" ∈ wsL_law := xw_3 _ (List.mem_of_getElem? (i := 85) rfl) rfl
theorem mw_3_86 : Cond.fieldLink RX8 13 "MarchMetresModel" "spare" "[I" ∈ wsL_law := xw_3 _ (List.mem_of_getElem? (i := 86) rfl) rfl
theorem mw_3_87 : Cond.fieldLink RX8 16 "MarchMetresModel" "past" "[I" ∈ wsL_law := xw_3 _ (List.mem_of_getElem? (i := 87) rfl) rfl
theorem mw_3_89 : Cond.fieldLink RX8 19 "MarchMetresModel" "slots" "[I" ∈ wsL_law := xw_3 _ (List.mem_of_getElem? (i := 89) rfl) rfl
theorem mw_3_90 : Cond.fieldLink RX8 22 "MarchMetresModel" "isSaved" "[Z" ∈ wsL_law := xw_3 _ (List.mem_of_getElem? (i := 90) rfl) rfl
theorem mw_3_91 : Cond.fieldLink RX8 26 "MarchMetresModel" "pad" "[I" ∈ wsL_law := xw_3 _ (List.mem_of_getElem? (i := 91) rfl) rfl
theorem mw_3_96 : Cond.fieldLink RX8 29 "MarchMetresModel" "toldFeet" "[I" ∈ wsL_law := xw_3 _ (List.mem_of_getElem? (i := 96) rfl) rfl
theorem mw_3_97 : Cond.fieldLink RX8 32 "MarchMetresModel" "toldMany" "[I" ∈ wsL_law := xw_3 _ (List.mem_of_getElem? (i := 97) rfl) rfl
theorem mw_3_81 : Cond.methodLink RX8 35 yX8_beginNow ∈ wsL_law := xw_3 _ (List.mem_of_getElem? (i := 81) rfl) rfl
theorem mw_3_83 : Cond.instanceMethod yX8_beginNow ∈ wsL_law := xw_3 _ (List.mem_of_getElem? (i := 83) rfl) rfl
theorem mw_0_4 : Cond.selects RX8 yX8_beginNow yX8_beginNow ∈ wsL_law := xw_0 _ (List.mem_of_getElem? (i := 4) rfl) rfl
theorem mw_3_84 : Cond.code yX8_beginNow cX8_beginNow 2 none ∈ wsL_law := xw_3 _ (List.mem_of_getElem? (i := 84) rfl) rfl
theorem mw_1_239 : Cond.methodLink RL 13 yX7_set ∈ wsL_law := xw_1 _ (List.mem_of_getElem? (i := 239) rfl) rfl
theorem mw_2_0 : Cond.instanceMethod yX7_set ∈ wsL_law := xw_2 _ (List.mem_of_getElem? (i := 0) rfl) rfl
theorem mw_2_1 : Cond.selects RX7 yX7_set yX7_set ∈ wsL_law := xw_2 _ (List.mem_of_getElem? (i := 1) rfl) rfl
theorem mw_2_2 : Cond.code yX7_set cX7_set 4 (some .int) ∈ wsL_law := xw_2 _ (List.mem_of_getElem? (i := 2) rfl) rfl
theorem mw_2_3 : Cond.methodLink RX7 55 yX4_allows ∈ wsL_law := xw_2 _ (List.mem_of_getElem? (i := 3) rfl) rfl
theorem mw_2_4 : Cond.static yX4_allows ∈ wsL_law := xw_2 _ (List.mem_of_getElem? (i := 4) rfl) rfl
theorem mw_2_5 : Cond.code yX4_allows cX4_allows 2 (some .boolean) ∈ wsL_law := xw_2 _ (List.mem_of_getElem? (i := 5) rfl) rfl
theorem mw_2_10 : Cond.methodLink RX7 59 yX0_record ∈ wsL_law := xw_2 _ (List.mem_of_getElem? (i := 10) rfl) rfl
theorem mw_2_11 : Cond.instanceMethod yX0_record ∈ wsL_law := xw_2 _ (List.mem_of_getElem? (i := 11) rfl) rfl
theorem mw_2_12 : Cond.selects RX0 yX0_record yX0_record ∈ wsL_law := xw_2 _ (List.mem_of_getElem? (i := 12) rfl) rfl
theorem mw_2_13 : Cond.code yX0_record cX0_record 3 none ∈ wsL_law := xw_2 _ (List.mem_of_getElem? (i := 13) rfl) rfl
theorem mw_1_175 : Cond.fieldLink RX0 18 "MarchMetres$History" "size" "I" ∈ wsL_law := xw_1 _ (List.mem_of_getElem? (i := 175) rfl) rfl
theorem mw_1_174 : Cond.fieldLink RX0 26 "MarchMetres$History" "oldest" "I" ∈ wsL_law := xw_1 _ (List.mem_of_getElem? (i := 174) rfl) rfl
theorem mw_2_14 : Cond.methodLink RX0 22 yX0_placeOf ∈ wsL_law := xw_2 _ (List.mem_of_getElem? (i := 14) rfl) rfl
theorem mw_2_16 : Cond.instanceMethod yX0_placeOf ∈ wsL_law := xw_2 _ (List.mem_of_getElem? (i := 16) rfl) rfl
theorem mw_0_0 : Cond.selects RX0 yX0_placeOf yX0_placeOf ∈ wsL_law := xw_0 _ (List.mem_of_getElem? (i := 0) rfl) rfl
theorem mw_2_17 : Cond.code yX0_placeOf cX0_placeOf 2 (some .int) ∈ wsL_law := xw_2 _ (List.mem_of_getElem? (i := 17) rfl) rfl
theorem mw_2_18 : Cond.methodLink RX0 33 yJ9_floorMod_7cf53 ∈ wsL_law := xw_2 _ (List.mem_of_getElem? (i := 18) rfl) rfl
theorem mw_2_19 : Cond.static yJ9_floorMod_7cf53 ∈ wsL_law := xw_2 _ (List.mem_of_getElem? (i := 19) rfl) rfl
theorem mw_1_10 : Cond.initialized RJ9 ∈ wsL_law := xw_1 _ (List.mem_of_getElem? (i := 10) rfl) rfl
theorem mw_2_20 : Cond.code yJ9_floorMod_7cf53 cJ9_floorMod_7cf53 3 (some .int) ∈ wsL_law := xw_2 _ (List.mem_of_getElem? (i := 20) rfl) rfl
theorem mw_2_21 : Cond.methodLink RX0 29 yX6_copyFrom ∈ wsL_law := xw_2 _ (List.mem_of_getElem? (i := 21) rfl) rfl
theorem mw_2_22 : Cond.instanceMethod yX6_copyFrom ∈ wsL_law := xw_2 _ (List.mem_of_getElem? (i := 22) rfl) rfl
theorem mw_2_23 : Cond.selects RX6 yX6_copyFrom yX6_copyFrom ∈ wsL_law := xw_2 _ (List.mem_of_getElem? (i := 23) rfl) rfl
theorem mw_2_24 : Cond.code yX6_copyFrom cX6_copyFrom 2 none ∈ wsL_law := xw_2 _ (List.mem_of_getElem? (i := 24) rfl) rfl
theorem mw_2_25 : Cond.methodLink RX6 47 yX4_copyFrom ∈ wsL_law := xw_2 _ (List.mem_of_getElem? (i := 25) rfl) rfl
theorem mw_2_26 : Cond.instanceMethod yX4_copyFrom ∈ wsL_law := xw_2 _ (List.mem_of_getElem? (i := 26) rfl) rfl
theorem mw_2_27 : Cond.selects RX4 yX4_copyFrom yX4_copyFrom ∈ wsL_law := xw_2 _ (List.mem_of_getElem? (i := 27) rfl) rfl
theorem mw_2_28 : Cond.code yX4_copyFrom cX4_copyFrom 3 none ∈ wsL_law := xw_2 _ (List.mem_of_getElem? (i := 28) rfl) rfl
theorem mw_2_29 : Cond.methodLink RX6 51 yX5_copyFrom ∈ wsL_law := xw_2 _ (List.mem_of_getElem? (i := 29) rfl) rfl
theorem mw_2_30 : Cond.instanceMethod yX5_copyFrom ∈ wsL_law := xw_2 _ (List.mem_of_getElem? (i := 30) rfl) rfl
theorem mw_2_31 : Cond.selects RX5 yX5_copyFrom yX5_copyFrom ∈ wsL_law := xw_2 _ (List.mem_of_getElem? (i := 31) rfl) rfl
theorem mw_2_32 : Cond.code yX5_copyFrom cX5_copyFrom 3 none ∈ wsL_law := xw_2 _ (List.mem_of_getElem? (i := 32) rfl) rfl
theorem mw_1_44 : Cond.fieldLink RX5 22 "MarchMetres$Song" "lines" "I" ∈ wsL_law := xw_1 _ (List.mem_of_getElem? (i := 44) rfl) rfl
theorem mw_2_33 : Cond.methodLink RX6 54 yX3_copyFrom ∈ wsL_law := xw_2 _ (List.mem_of_getElem? (i := 33) rfl) rfl
theorem mw_2_34 : Cond.instanceMethod yX3_copyFrom ∈ wsL_law := xw_2 _ (List.mem_of_getElem? (i := 34) rfl) rfl
theorem mw_2_35 : Cond.selects RX3 yX3_copyFrom yX3_copyFrom ∈ wsL_law := xw_2 _ (List.mem_of_getElem? (i := 35) rfl) rfl
theorem mw_2_36 : Cond.code yX3_copyFrom cX3_copyFrom 3 none ∈ wsL_law := xw_2 _ (List.mem_of_getElem? (i := 36) rfl) rfl
theorem mw_1_66 : Cond.fieldLink RX3 22 "MarchMetres$Road" "stretches" "I" ∈ wsL_law := xw_1 _ (List.mem_of_getElem? (i := 66) rfl) rfl
theorem mw_2_37 : Cond.methodLink RX6 57 yX1_copyFrom ∈ wsL_law := xw_2 _ (List.mem_of_getElem? (i := 37) rfl) rfl
theorem mw_2_38 : Cond.instanceMethod yX1_copyFrom ∈ wsL_law := xw_2 _ (List.mem_of_getElem? (i := 38) rfl) rfl
theorem mw_2_39 : Cond.selects RX1 yX1_copyFrom yX1_copyFrom ∈ wsL_law := xw_2 _ (List.mem_of_getElem? (i := 39) rfl) rfl
theorem mw_2_40 : Cond.code yX1_copyFrom cX1_copyFrom 2 none ∈ wsL_law := xw_2 _ (List.mem_of_getElem? (i := 40) rfl) rfl
theorem mw_2_41 : Cond.methodLink RX7 66 yX4_valueOf ∈ wsL_law := xw_2 _ (List.mem_of_getElem? (i := 41) rfl) rfl
theorem mw_2_42 : Cond.methodLink RX7 70 yX4_change ∈ wsL_law := xw_2 _ (List.mem_of_getElem? (i := 42) rfl) rfl
theorem mw_2_43 : Cond.instanceMethod yX4_change ∈ wsL_law := xw_2 _ (List.mem_of_getElem? (i := 43) rfl) rfl
theorem mw_2_44 : Cond.selects RX4 yX4_change yX4_change ∈ wsL_law := xw_2 _ (List.mem_of_getElem? (i := 44) rfl) rfl
theorem mw_2_45 : Cond.code yX4_change cX4_change 3 none ∈ wsL_law := xw_2 _ (List.mem_of_getElem? (i := 45) rfl) rfl
theorem mw_3_194 : Cond.methodLink RL 17 yX8_set ∈ wsL_law := xw_3 _ (List.mem_of_getElem? (i := 194) rfl) rfl
theorem mw_3_195 : Cond.instanceMethod yX8_set ∈ wsL_law := xw_3 _ (List.mem_of_getElem? (i := 195) rfl) rfl
theorem mw_3_196 : Cond.selects RX8 yX8_set yX8_set ∈ wsL_law := xw_3 _ (List.mem_of_getElem? (i := 196) rfl) rfl
theorem mw_3_197 : Cond.code yX8_set cX8_set 4 (some .int) ∈ wsL_law := xw_3 _ (List.mem_of_getElem? (i := 197) rfl) rfl
theorem mw_3_198 : Cond.methodLink RX8 92 yX8_isValue ∈ wsL_law := xw_3 _ (List.mem_of_getElem? (i := 198) rfl) rfl
theorem mw_3_199 : Cond.static yX8_isValue ∈ wsL_law := xw_3 _ (List.mem_of_getElem? (i := 199) rfl) rfl
theorem mw_3_200 : Cond.code yX8_isValue cX8_isValue 2 (some .boolean) ∈ wsL_law := xw_3 _ (List.mem_of_getElem? (i := 200) rfl) rfl
theorem mw_3_139 : Cond.methodLink RX8 38 yX8_in ∈ wsL_law := xw_3 _ (List.mem_of_getElem? (i := 139) rfl) rfl
theorem mw_3_140 : Cond.static yX8_in ∈ wsL_law := xw_3 _ (List.mem_of_getElem? (i := 140) rfl) rfl
theorem mw_3_141 : Cond.code yX8_in cX8_in 3 (some .boolean) ∈ wsL_law := xw_3 _ (List.mem_of_getElem? (i := 141) rfl) rfl
theorem mw_3_146 : Cond.methodLink RX8 50 yX8_record ∈ wsL_law := xw_3 _ (List.mem_of_getElem? (i := 146) rfl) rfl
theorem mw_3_148 : Cond.instanceMethod yX8_record ∈ wsL_law := xw_3 _ (List.mem_of_getElem? (i := 148) rfl) rfl
theorem mw_0_5 : Cond.selects RX8 yX8_record yX8_record ∈ wsL_law := xw_0 _ (List.mem_of_getElem? (i := 5) rfl) rfl
theorem mw_3_149 : Cond.code yX8_record cX8_record 2 none ∈ wsL_law := xw_3 _ (List.mem_of_getElem? (i := 149) rfl) rfl
theorem mw_3_88 : Cond.fieldLink RX8 42 "MarchMetresModel" "states" "I" ∈ wsL_law := xw_3 _ (List.mem_of_getElem? (i := 88) rfl) rfl
theorem mw_3_132 : Cond.methodLink RX8 46 yX8_copyState ∈ wsL_law := xw_3 _ (List.mem_of_getElem? (i := 132) rfl) rfl
theorem mw_3_133 : Cond.static yX8_copyState ∈ wsL_law := xw_3 _ (List.mem_of_getElem? (i := 133) rfl) rfl
theorem mw_3_134 : Cond.code yX8_copyState cX8_copyState 5 none ∈ wsL_law := xw_3 _ (List.mem_of_getElem? (i := 134) rfl) rfl
theorem mw_2_46 : Cond.methodLink RL 18 yX7_read ∈ wsL_law := xw_2 _ (List.mem_of_getElem? (i := 46) rfl) rfl
theorem mw_2_47 : Cond.instanceMethod yX7_read ∈ wsL_law := xw_2 _ (List.mem_of_getElem? (i := 47) rfl) rfl
theorem mw_2_48 : Cond.selects RX7 yX7_read yX7_read ∈ wsL_law := xw_2 _ (List.mem_of_getElem? (i := 48) rfl) rfl
theorem mw_2_49 : Cond.code yX7_read cX7_read 1 (some .int) ∈ wsL_law := xw_2 _ (List.mem_of_getElem? (i := 49) rfl) rfl
theorem mw_2_50 : Cond.methodLink RX7 74 yX2_faultIndex ∈ wsL_law := xw_2 _ (List.mem_of_getElem? (i := 50) rfl) rfl
theorem mw_2_51 : Cond.instanceMethod yX2_faultIndex ∈ wsL_law := xw_2 _ (List.mem_of_getElem? (i := 51) rfl) rfl
theorem mw_2_52 : Cond.selects RX2 yX2_faultIndex yX2_faultIndex ∈ wsL_law := xw_2 _ (List.mem_of_getElem? (i := 52) rfl) rfl
theorem mw_2_53 : Cond.code yX2_faultIndex cX2_faultIndex 6 (some .int) ∈ wsL_law := xw_2 _ (List.mem_of_getElem? (i := 53) rfl) rfl
theorem mw_1_191 : Cond.fieldLink RX2 21 "MarchMetres$Pad" "length" "I" ∈ wsL_law := xw_1 _ (List.mem_of_getElem? (i := 191) rfl) rfl
theorem mw_2_54 : Cond.methodLink RX2 25 yX2_beatsMeantBy ∈ wsL_law := xw_2 _ (List.mem_of_getElem? (i := 54) rfl) rfl
theorem mw_2_55 : Cond.static yX2_beatsMeantBy ∈ wsL_law := xw_2 _ (List.mem_of_getElem? (i := 55) rfl) rfl
theorem mw_2_56 : Cond.code yX2_beatsMeantBy cX2_beatsMeantBy 1 (some .int) ∈ wsL_law := xw_2 _ (List.mem_of_getElem? (i := 56) rfl) rfl
theorem mw_2_57 : Cond.methodLink RX7 82 yX2_writeInto ∈ wsL_law := xw_2 _ (List.mem_of_getElem? (i := 57) rfl) rfl
theorem mw_2_58 : Cond.instanceMethod yX2_writeInto ∈ wsL_law := xw_2 _ (List.mem_of_getElem? (i := 58) rfl) rfl
theorem mw_2_59 : Cond.selects RX2 yX2_writeInto yX2_writeInto ∈ wsL_law := xw_2 _ (List.mem_of_getElem? (i := 59) rfl) rfl
theorem mw_2_60 : Cond.code yX2_writeInto cX2_writeInto 4 none ∈ wsL_law := xw_2 _ (List.mem_of_getElem? (i := 60) rfl) rfl
theorem mw_2_61 : Cond.methodLink RX2 29 yX5_clear ∈ wsL_law := xw_2 _ (List.mem_of_getElem? (i := 61) rfl) rfl
theorem mw_2_62 : Cond.instanceMethod yX5_clear ∈ wsL_law := xw_2 _ (List.mem_of_getElem? (i := 62) rfl) rfl
theorem mw_2_63 : Cond.selects RX5 yX5_clear yX5_clear ∈ wsL_law := xw_2 _ (List.mem_of_getElem? (i := 63) rfl) rfl
theorem mw_2_64 : Cond.code yX5_clear cX5_clear 1 none ∈ wsL_law := xw_2 _ (List.mem_of_getElem? (i := 64) rfl) rfl
theorem mw_2_65 : Cond.methodLink RX2 34 yX5_addLine ∈ wsL_law := xw_2 _ (List.mem_of_getElem? (i := 65) rfl) rfl
theorem mw_2_66 : Cond.instanceMethod yX5_addLine ∈ wsL_law := xw_2 _ (List.mem_of_getElem? (i := 66) rfl) rfl
theorem mw_2_67 : Cond.selects RX5 yX5_addLine yX5_addLine ∈ wsL_law := xw_2 _ (List.mem_of_getElem? (i := 67) rfl) rfl
theorem mw_2_68 : Cond.code yX5_addLine cX5_addLine 1 none ∈ wsL_law := xw_2 _ (List.mem_of_getElem? (i := 68) rfl) rfl
theorem mw_2_69 : Cond.methodLink RX2 37 yX5_markLastFoot ∈ wsL_law := xw_2 _ (List.mem_of_getElem? (i := 69) rfl) rfl
theorem mw_2_70 : Cond.instanceMethod yX5_markLastFoot ∈ wsL_law := xw_2 _ (List.mem_of_getElem? (i := 70) rfl) rfl
theorem mw_2_71 : Cond.selects RX5 yX5_markLastFoot yX5_markLastFoot ∈ wsL_law := xw_2 _ (List.mem_of_getElem? (i := 71) rfl) rfl
theorem mw_2_72 : Cond.code yX5_markLastFoot cX5_markLastFoot 3 none ∈ wsL_law := xw_2 _ (List.mem_of_getElem? (i := 72) rfl) rfl
theorem mw_2_73 : Cond.methodLink RX5 30 yX5_feetOf ∈ wsL_law := xw_2 _ (List.mem_of_getElem? (i := 73) rfl) rfl
theorem mw_2_74 : Cond.instanceMethod yX5_feetOf ∈ wsL_law := xw_2 _ (List.mem_of_getElem? (i := 74) rfl) rfl
theorem mw_2_75 : Cond.selects RX5 yX5_feetOf yX5_feetOf ∈ wsL_law := xw_2 _ (List.mem_of_getElem? (i := 75) rfl) rfl
theorem mw_2_76 : Cond.code yX5_feetOf cX5_feetOf 2 (some .int) ∈ wsL_law := xw_2 _ (List.mem_of_getElem? (i := 76) rfl) rfl
theorem mw_2_77 : Cond.methodLink RX5 26 yX5_hasLine ∈ wsL_law := xw_2 _ (List.mem_of_getElem? (i := 77) rfl) rfl
theorem mw_2_78 : Cond.instanceMethod yX5_hasLine ∈ wsL_law := xw_2 _ (List.mem_of_getElem? (i := 78) rfl) rfl
theorem mw_2_79 : Cond.selects RX5 yX5_hasLine yX5_hasLine ∈ wsL_law := xw_2 _ (List.mem_of_getElem? (i := 79) rfl) rfl
theorem mw_2_80 : Cond.code yX5_hasLine cX5_hasLine 2 (some .boolean) ∈ wsL_law := xw_2 _ (List.mem_of_getElem? (i := 80) rfl) rfl
theorem mw_2_81 : Cond.methodLink RX5 34 yX5_hasFoot ∈ wsL_law := xw_2 _ (List.mem_of_getElem? (i := 81) rfl) rfl
theorem mw_2_82 : Cond.instanceMethod yX5_hasFoot ∈ wsL_law := xw_2 _ (List.mem_of_getElem? (i := 82) rfl) rfl
theorem mw_2_83 : Cond.selects RX5 yX5_hasFoot yX5_hasFoot ∈ wsL_law := xw_2 _ (List.mem_of_getElem? (i := 83) rfl) rfl
theorem mw_2_84 : Cond.code yX5_hasFoot cX5_hasFoot 3 (some .boolean) ∈ wsL_law := xw_2 _ (List.mem_of_getElem? (i := 84) rfl) rfl
theorem mw_2_85 : Cond.methodLink RX2 40 yX5_addFoot ∈ wsL_law := xw_2 _ (List.mem_of_getElem? (i := 85) rfl) rfl
theorem mw_2_86 : Cond.instanceMethod yX5_addFoot ∈ wsL_law := xw_2 _ (List.mem_of_getElem? (i := 86) rfl) rfl
theorem mw_2_87 : Cond.selects RX5 yX5_addFoot yX5_addFoot ∈ wsL_law := xw_2 _ (List.mem_of_getElem? (i := 87) rfl) rfl
theorem mw_2_88 : Cond.code yX5_addFoot cX5_addFoot 4 none ∈ wsL_law := xw_2 _ (List.mem_of_getElem? (i := 88) rfl) rfl
theorem mw_2_89 : Cond.methodLink RX7 86 yX2_empty ∈ wsL_law := xw_2 _ (List.mem_of_getElem? (i := 89) rfl) rfl
theorem mw_2_90 : Cond.instanceMethod yX2_empty ∈ wsL_law := xw_2 _ (List.mem_of_getElem? (i := 90) rfl) rfl
theorem mw_2_91 : Cond.selects RX2 yX2_empty yX2_empty ∈ wsL_law := xw_2 _ (List.mem_of_getElem? (i := 91) rfl) rfl
theorem mw_2_92 : Cond.code yX2_empty cX2_empty 1 none ∈ wsL_law := xw_2 _ (List.mem_of_getElem? (i := 92) rfl) rfl
theorem mw_4_2 : Cond.methodLink RL 22 yX8_read ∈ wsL_law := xw_4 _ (List.mem_of_getElem? (i := 2) rfl) rfl
theorem mw_4_3 : Cond.instanceMethod yX8_read ∈ wsL_law := xw_4 _ (List.mem_of_getElem? (i := 3) rfl) rfl
theorem mw_4_4 : Cond.selects RX8 yX8_read yX8_read ∈ wsL_law := xw_4 _ (List.mem_of_getElem? (i := 4) rfl) rfl
theorem mw_4_5 : Cond.code yX8_read cX8_read 3 (some .int) ∈ wsL_law := xw_4 _ (List.mem_of_getElem? (i := 5) rfl) rfl
theorem mw_3_98 : Cond.fieldLink RX8 110 "MarchMetresModel" "toldLines" "I" ∈ wsL_law := xw_3 _ (List.mem_of_getElem? (i := 98) rfl) rfl
theorem mw_3_92 : Cond.fieldLink RX8 101 "MarchMetresModel" "typed" "I" ∈ wsL_law := xw_3 _ (List.mem_of_getElem? (i := 92) rfl) rfl
theorem mw_3_226 : Cond.methodLink RX8 119 yX8_readPad ∈ wsL_law := xw_3 _ (List.mem_of_getElem? (i := 226) rfl) rfl
theorem mw_3_228 : Cond.instanceMethod yX8_readPad ∈ wsL_law := xw_3 _ (List.mem_of_getElem? (i := 228) rfl) rfl
theorem mw_0_16 : Cond.selects RX8 yX8_readPad yX8_readPad ∈ wsL_law := xw_0 _ (List.mem_of_getElem? (i := 16) rfl) rfl
theorem mw_3_229 : Cond.code yX8_readPad cX8_readPad 2 (some .boolean) ∈ wsL_law := xw_3 _ (List.mem_of_getElem? (i := 229) rfl) rfl
theorem mw_3_95 : Cond.fieldLink RX8 104 "MarchMetresModel" "spot" "I" ∈ wsL_law := xw_3 _ (List.mem_of_getElem? (i := 95) rfl) rfl
theorem mw_3_230 : Cond.methodLink RX8 116 yX8_readLine ∈ wsL_law := xw_3 _ (List.mem_of_getElem? (i := 230) rfl) rfl
theorem mw_3_232 : Cond.instanceMethod yX8_readLine ∈ wsL_law := xw_3 _ (List.mem_of_getElem? (i := 232) rfl) rfl
theorem mw_0_17 : Cond.selects RX8 yX8_readLine yX8_readLine ∈ wsL_law := xw_0 _ (List.mem_of_getElem? (i := 17) rfl) rfl
theorem mw_3_233 : Cond.code yX8_readLine cX8_readLine 2 (some .boolean) ∈ wsL_law := xw_3 _ (List.mem_of_getElem? (i := 233) rfl) rfl
theorem mw_3_234 : Cond.methodLink RX8 113 yX8_readFoot ∈ wsL_law := xw_3 _ (List.mem_of_getElem? (i := 234) rfl) rfl
theorem mw_3_236 : Cond.instanceMethod yX8_readFoot ∈ wsL_law := xw_3 _ (List.mem_of_getElem? (i := 236) rfl) rfl
theorem mw_0_18 : Cond.selects RX8 yX8_readFoot yX8_readFoot ∈ wsL_law := xw_0 _ (List.mem_of_getElem? (i := 18) rfl) rfl
theorem mw_3_237 : Cond.code yX8_readFoot cX8_readFoot 3 (some .boolean) ∈ wsL_law := xw_3 _ (List.mem_of_getElem? (i := 237) rfl) rfl
theorem mw_3_238 : Cond.methodLink RX8 107 yX8_takes ∈ wsL_law := xw_3 _ (List.mem_of_getElem? (i := 238) rfl) rfl
theorem mw_4_0 : Cond.instanceMethod yX8_takes ∈ wsL_law := xw_4 _ (List.mem_of_getElem? (i := 0) rfl) rfl
theorem mw_0_19 : Cond.selects RX8 yX8_takes yX8_takes ∈ wsL_law := xw_0 _ (List.mem_of_getElem? (i := 19) rfl) rfl
theorem mw_4_1 : Cond.code yX8_takes cX8_takes 3 (some .boolean) ∈ wsL_law := xw_4 _ (List.mem_of_getElem? (i := 1) rfl) rfl
theorem mw_2_93 : Cond.methodLink RL 23 yX7_pave ∈ wsL_law := xw_2 _ (List.mem_of_getElem? (i := 93) rfl) rfl
theorem mw_2_94 : Cond.instanceMethod yX7_pave ∈ wsL_law := xw_2 _ (List.mem_of_getElem? (i := 94) rfl) rfl
theorem mw_2_95 : Cond.selects RX7 yX7_pave yX7_pave ∈ wsL_law := xw_2 _ (List.mem_of_getElem? (i := 95) rfl) rfl
theorem mw_2_96 : Cond.code yX7_pave cX7_pave 4 (some .int) ∈ wsL_law := xw_2 _ (List.mem_of_getElem? (i := 96) rfl) rfl
theorem mw_2_97 : Cond.methodLink RX7 104 yX3_add ∈ wsL_law := xw_2 _ (List.mem_of_getElem? (i := 97) rfl) rfl
theorem mw_2_98 : Cond.instanceMethod yX3_add ∈ wsL_law := xw_2 _ (List.mem_of_getElem? (i := 98) rfl) rfl
theorem mw_2_99 : Cond.selects RX3 yX3_add yX3_add ∈ wsL_law := xw_2 _ (List.mem_of_getElem? (i := 99) rfl) rfl
theorem mw_2_100 : Cond.code yX3_add cX3_add 4 none ∈ wsL_law := xw_2 _ (List.mem_of_getElem? (i := 100) rfl) rfl
theorem mw_3_201 : Cond.methodLink RL 27 yX8_pave ∈ wsL_law := xw_3 _ (List.mem_of_getElem? (i := 201) rfl) rfl
theorem mw_3_202 : Cond.instanceMethod yX8_pave ∈ wsL_law := xw_3 _ (List.mem_of_getElem? (i := 202) rfl) rfl
theorem mw_3_203 : Cond.selects RX8 yX8_pave yX8_pave ∈ wsL_law := xw_3 _ (List.mem_of_getElem? (i := 203) rfl) rfl
theorem mw_3_204 : Cond.code yX8_pave cX8_pave 5 (some .int) ∈ wsL_law := xw_3 _ (List.mem_of_getElem? (i := 204) rfl) rfl
theorem mw_2_101 : Cond.methodLink RL 28 yX7_tear ∈ wsL_law := xw_2 _ (List.mem_of_getElem? (i := 101) rfl) rfl
theorem mw_2_102 : Cond.instanceMethod yX7_tear ∈ wsL_law := xw_2 _ (List.mem_of_getElem? (i := 102) rfl) rfl
theorem mw_2_103 : Cond.selects RX7 yX7_tear yX7_tear ∈ wsL_law := xw_2 _ (List.mem_of_getElem? (i := 103) rfl) rfl
theorem mw_2_104 : Cond.code yX7_tear cX7_tear 3 (some .int) ∈ wsL_law := xw_2 _ (List.mem_of_getElem? (i := 104) rfl) rfl
theorem mw_2_105 : Cond.methodLink RX7 108 yX3_has ∈ wsL_law := xw_2 _ (List.mem_of_getElem? (i := 105) rfl) rfl
theorem mw_2_106 : Cond.instanceMethod yX3_has ∈ wsL_law := xw_2 _ (List.mem_of_getElem? (i := 106) rfl) rfl
theorem mw_2_107 : Cond.selects RX3 yX3_has yX3_has ∈ wsL_law := xw_2 _ (List.mem_of_getElem? (i := 107) rfl) rfl
theorem mw_2_108 : Cond.code yX3_has cX3_has 2 (some .boolean) ∈ wsL_law := xw_2 _ (List.mem_of_getElem? (i := 108) rfl) rfl
theorem mw_2_109 : Cond.methodLink RX7 112 yX3_stepsOf ∈ wsL_law := xw_2 _ (List.mem_of_getElem? (i := 109) rfl) rfl
theorem mw_2_110 : Cond.instanceMethod yX3_stepsOf ∈ wsL_law := xw_2 _ (List.mem_of_getElem? (i := 110) rfl) rfl
theorem mw_2_111 : Cond.selects RX3 yX3_stepsOf yX3_stepsOf ∈ wsL_law := xw_2 _ (List.mem_of_getElem? (i := 111) rfl) rfl
theorem mw_2_112 : Cond.code yX3_stepsOf cX3_stepsOf 2 (some .int) ∈ wsL_law := xw_2 _ (List.mem_of_getElem? (i := 112) rfl) rfl
theorem mw_2_113 : Cond.methodLink RX3 26 yX3_has ∈ wsL_law := xw_2 _ (List.mem_of_getElem? (i := 113) rfl) rfl
theorem mw_2_114 : Cond.methodLink RX7 115 yX3_remove ∈ wsL_law := xw_2 _ (List.mem_of_getElem? (i := 114) rfl) rfl
theorem mw_2_115 : Cond.instanceMethod yX3_remove ∈ wsL_law := xw_2 _ (List.mem_of_getElem? (i := 115) rfl) rfl
theorem mw_2_116 : Cond.selects RX3 yX3_remove yX3_remove ∈ wsL_law := xw_2 _ (List.mem_of_getElem? (i := 116) rfl) rfl
theorem mw_2_117 : Cond.code yX3_remove cX3_remove 3 none ∈ wsL_law := xw_2 _ (List.mem_of_getElem? (i := 117) rfl) rfl
theorem mw_3_205 : Cond.methodLink RL 32 yX8_tear ∈ wsL_law := xw_3 _ (List.mem_of_getElem? (i := 205) rfl) rfl
theorem mw_3_206 : Cond.instanceMethod yX8_tear ∈ wsL_law := xw_3 _ (List.mem_of_getElem? (i := 206) rfl) rfl
theorem mw_3_207 : Cond.selects RX8 yX8_tear yX8_tear ∈ wsL_law := xw_3 _ (List.mem_of_getElem? (i := 207) rfl) rfl
theorem mw_3_208 : Cond.code yX8_tear cX8_tear 4 (some .int) ∈ wsL_law := xw_3 _ (List.mem_of_getElem? (i := 208) rfl) rfl
theorem mw_3_209 : Cond.methodLink RX8 95 yX8_isStretch ∈ wsL_law := xw_3 _ (List.mem_of_getElem? (i := 209) rfl) rfl
theorem mw_3_211 : Cond.instanceMethod yX8_isStretch ∈ wsL_law := xw_3 _ (List.mem_of_getElem? (i := 211) rfl) rfl
theorem mw_0_15 : Cond.selects RX8 yX8_isStretch yX8_isStretch ∈ wsL_law := xw_0 _ (List.mem_of_getElem? (i := 15) rfl) rfl
theorem mw_3_212 : Cond.code yX8_isStretch cX8_isStretch 2 (some .boolean) ∈ wsL_law := xw_3 _ (List.mem_of_getElem? (i := 212) rfl) rfl
theorem mw_3_170 : Cond.methodLink RX8 53 yX8_ofStretch ∈ wsL_law := xw_3 _ (List.mem_of_getElem? (i := 170) rfl) rfl
theorem mw_3_172 : Cond.instanceMethod yX8_ofStretch ∈ wsL_law := xw_3 _ (List.mem_of_getElem? (i := 172) rfl) rfl
theorem mw_0_10 : Cond.selects RX8 yX8_ofStretch yX8_ofStretch ∈ wsL_law := xw_0 _ (List.mem_of_getElem? (i := 10) rfl) rfl
theorem mw_3_173 : Cond.code yX8_ofStretch cX8_ofStretch 3 (some .int) ∈ wsL_law := xw_3 _ (List.mem_of_getElem? (i := 173) rfl) rfl
theorem mw_2_118 : Cond.methodLink RL 33 yX7_begin ∈ wsL_law := xw_2 _ (List.mem_of_getElem? (i := 118) rfl) rfl
theorem mw_2_119 : Cond.instanceMethod yX7_begin ∈ wsL_law := xw_2 _ (List.mem_of_getElem? (i := 119) rfl) rfl
theorem mw_2_120 : Cond.selects RX7 yX7_begin yX7_begin ∈ wsL_law := xw_2 _ (List.mem_of_getElem? (i := 120) rfl) rfl
theorem mw_2_121 : Cond.code yX7_begin cX7_begin 2 (some .int) ∈ wsL_law := xw_2 _ (List.mem_of_getElem? (i := 121) rfl) rfl
theorem mw_3_190 : Cond.methodLink RL 36 yX8_begin ∈ wsL_law := xw_3 _ (List.mem_of_getElem? (i := 190) rfl) rfl
theorem mw_3_191 : Cond.instanceMethod yX8_begin ∈ wsL_law := xw_3 _ (List.mem_of_getElem? (i := 191) rfl) rfl
theorem mw_3_192 : Cond.selects RX8 yX8_begin yX8_begin ∈ wsL_law := xw_3 _ (List.mem_of_getElem? (i := 192) rfl) rfl
theorem mw_3_193 : Cond.code yX8_begin cX8_begin 2 (some .int) ∈ wsL_law := xw_3 _ (List.mem_of_getElem? (i := 193) rfl) rfl
theorem mw_2_122 : Cond.methodLink RL 37 yX7_march ∈ wsL_law := xw_2 _ (List.mem_of_getElem? (i := 122) rfl) rfl
theorem mw_2_123 : Cond.instanceMethod yX7_march ∈ wsL_law := xw_2 _ (List.mem_of_getElem? (i := 123) rfl) rfl
theorem mw_2_124 : Cond.selects RX7 yX7_march yX7_march ∈ wsL_law := xw_2 _ (List.mem_of_getElem? (i := 124) rfl) rfl
theorem mw_2_125 : Cond.code yX7_march cX7_march 3 (some .int) ∈ wsL_law := xw_2 _ (List.mem_of_getElem? (i := 125) rfl) rfl
theorem mw_2_126 : Cond.methodLink RX7 125 yX7_isReady ∈ wsL_law := xw_2 _ (List.mem_of_getElem? (i := 126) rfl) rfl
theorem mw_2_128 : Cond.instanceMethod yX7_isReady ∈ wsL_law := xw_2 _ (List.mem_of_getElem? (i := 128) rfl) rfl
theorem mw_0_1 : Cond.selects RX7 yX7_isReady yX7_isReady ∈ wsL_law := xw_0 _ (List.mem_of_getElem? (i := 1) rfl) rfl
theorem mw_2_129 : Cond.code yX7_isReady cX7_isReady 1 (some .boolean) ∈ wsL_law := xw_2 _ (List.mem_of_getElem? (i := 129) rfl) rfl
theorem mw_2_130 : Cond.methodLink RX7 129 yX1_isAtEndOf ∈ wsL_law := xw_2 _ (List.mem_of_getElem? (i := 130) rfl) rfl
theorem mw_2_131 : Cond.instanceMethod yX1_isAtEndOf ∈ wsL_law := xw_2 _ (List.mem_of_getElem? (i := 131) rfl) rfl
theorem mw_2_132 : Cond.selects RX1 yX1_isAtEndOf yX1_isAtEndOf ∈ wsL_law := xw_2 _ (List.mem_of_getElem? (i := 132) rfl) rfl
theorem mw_2_133 : Cond.code yX1_isAtEndOf cX1_isAtEndOf 2 (some .boolean) ∈ wsL_law := xw_2 _ (List.mem_of_getElem? (i := 133) rfl) rfl
theorem mw_2_134 : Cond.methodLink RX7 133 yX1_goUntilWalked ∈ wsL_law := xw_2 _ (List.mem_of_getElem? (i := 134) rfl) rfl
theorem mw_2_135 : Cond.instanceMethod yX1_goUntilWalked ∈ wsL_law := xw_2 _ (List.mem_of_getElem? (i := 135) rfl) rfl
theorem mw_2_136 : Cond.selects RX1 yX1_goUntilWalked yX1_goUntilWalked ∈ wsL_law := xw_2 _ (List.mem_of_getElem? (i := 136) rfl) rfl
theorem mw_2_137 : Cond.code yX1_goUntilWalked cX1_goUntilWalked 6 none ∈ wsL_law := xw_2 _ (List.mem_of_getElem? (i := 137) rfl) rfl
theorem mw_2_138 : Cond.methodLink RX1 62 yX1_isAtEndOf ∈ wsL_law := xw_2 _ (List.mem_of_getElem? (i := 138) rfl) rfl
theorem mw_2_139 : Cond.methodLink RX1 66 yX1_goOn ∈ wsL_law := xw_2 _ (List.mem_of_getElem? (i := 139) rfl) rfl
theorem mw_2_140 : Cond.instanceMethod yX1_goOn ∈ wsL_law := xw_2 _ (List.mem_of_getElem? (i := 140) rfl) rfl
theorem mw_2_141 : Cond.selects RX1 yX1_goOn yX1_goOn ∈ wsL_law := xw_2 _ (List.mem_of_getElem? (i := 141) rfl) rfl
theorem mw_2_142 : Cond.code yX1_goOn cX1_goOn 6 none ∈ wsL_law := xw_2 _ (List.mem_of_getElem? (i := 142) rfl) rfl
theorem mw_2_147 : Cond.methodLink RX1 74 Lib.Math.max.name ∈ wsL_law := xw_2 _ (List.mem_of_getElem? (i := 147) rfl) rfl
theorem mw_2_148 : Cond.static Lib.Math.max.name ∈ wsL_law := xw_2 _ (List.mem_of_getElem? (i := 148) rfl) rfl
theorem mw_1_10b : Cond.initialized "java/lang/Math" ∈ wsL_law := xw_1 _ (List.mem_of_getElem? (i := 10) rfl) rfl
theorem mw_2_149 : Cond.code Lib.Math.max.name Lib.Math.max.code 2 (some .int) ∈ wsL_law := xw_2 _ (List.mem_of_getElem? (i := 149) rfl) rfl
theorem mw_2_151 : Cond.methodLink RX1 85 Lib.Math.min.name ∈ wsL_law := xw_2 _ (List.mem_of_getElem? (i := 151) rfl) rfl
theorem mw_2_152 : Cond.static Lib.Math.min.name ∈ wsL_law := xw_2 _ (List.mem_of_getElem? (i := 152) rfl) rfl
theorem mw_2_153 : Cond.code Lib.Math.min.name Lib.Math.min.code 2 (some .int) ∈ wsL_law := xw_2 _ (List.mem_of_getElem? (i := 153) rfl) rfl
theorem mw_2_143 : Cond.methodLink RX1 70 yX3_slopeOf ∈ wsL_law := xw_2 _ (List.mem_of_getElem? (i := 143) rfl) rfl
theorem mw_2_144 : Cond.instanceMethod yX3_slopeOf ∈ wsL_law := xw_2 _ (List.mem_of_getElem? (i := 144) rfl) rfl
theorem mw_2_145 : Cond.selects RX3 yX3_slopeOf yX3_slopeOf ∈ wsL_law := xw_2 _ (List.mem_of_getElem? (i := 145) rfl) rfl
theorem mw_2_146 : Cond.code yX3_slopeOf cX3_slopeOf 2 (some .int) ∈ wsL_law := xw_2 _ (List.mem_of_getElem? (i := 146) rfl) rfl
theorem mw_2_150 : Cond.methodLink RX1 80 yX4_valueOf ∈ wsL_law := xw_2 _ (List.mem_of_getElem? (i := 150) rfl) rfl
theorem mw_2_154 : Cond.methodLink RX1 88 yX1_stepOn ∈ wsL_law := xw_2 _ (List.mem_of_getElem? (i := 154) rfl) rfl
theorem mw_2_156 : Cond.instanceMethod yX1_stepOn ∈ wsL_law := xw_2 _ (List.mem_of_getElem? (i := 156) rfl) rfl
theorem mw_0_2 : Cond.selects RX1 yX1_stepOn yX1_stepOn ∈ wsL_law := xw_0 _ (List.mem_of_getElem? (i := 2) rfl) rfl
theorem mw_2_157 : Cond.code yX1_stepOn cX1_stepOn 3 none ∈ wsL_law := xw_2 _ (List.mem_of_getElem? (i := 157) rfl) rfl
theorem mw_2_158 : Cond.methodLink RX1 96 yX3_isMuddy ∈ wsL_law := xw_2 _ (List.mem_of_getElem? (i := 158) rfl) rfl
theorem mw_2_159 : Cond.instanceMethod yX3_isMuddy ∈ wsL_law := xw_2 _ (List.mem_of_getElem? (i := 159) rfl) rfl
theorem mw_2_160 : Cond.selects RX3 yX3_isMuddy yX3_isMuddy ∈ wsL_law := xw_2 _ (List.mem_of_getElem? (i := 160) rfl) rfl
theorem mw_2_161 : Cond.code yX3_isMuddy cX3_isMuddy 2 (some .boolean) ∈ wsL_law := xw_2 _ (List.mem_of_getElem? (i := 161) rfl) rfl
theorem mw_2_162 : Cond.methodLink RX1 100 yX3_stepsOf ∈ wsL_law := xw_2 _ (List.mem_of_getElem? (i := 162) rfl) rfl
theorem mw_2_163 : Cond.methodLink RX1 92 yX1_singOn ∈ wsL_law := xw_2 _ (List.mem_of_getElem? (i := 163) rfl) rfl
theorem mw_2_165 : Cond.instanceMethod yX1_singOn ∈ wsL_law := xw_2 _ (List.mem_of_getElem? (i := 165) rfl) rfl
theorem mw_0_3 : Cond.selects RX1 yX1_singOn yX1_singOn ∈ wsL_law := xw_0 _ (List.mem_of_getElem? (i := 3) rfl) rfl
theorem mw_2_166 : Cond.code yX1_singOn cX1_singOn 3 none ∈ wsL_law := xw_2 _ (List.mem_of_getElem? (i := 166) rfl) rfl
theorem mw_2_167 : Cond.methodLink RX1 103 yX5_beatsOf ∈ wsL_law := xw_2 _ (List.mem_of_getElem? (i := 167) rfl) rfl
theorem mw_2_168 : Cond.instanceMethod yX5_beatsOf ∈ wsL_law := xw_2 _ (List.mem_of_getElem? (i := 168) rfl) rfl
theorem mw_2_169 : Cond.selects RX5 yX5_beatsOf yX5_beatsOf ∈ wsL_law := xw_2 _ (List.mem_of_getElem? (i := 169) rfl) rfl
theorem mw_2_170 : Cond.code yX5_beatsOf cX5_beatsOf 3 (some .int) ∈ wsL_law := xw_2 _ (List.mem_of_getElem? (i := 170) rfl) rfl
theorem mw_2_171 : Cond.methodLink RX1 108 yX5_isMarked ∈ wsL_law := xw_2 _ (List.mem_of_getElem? (i := 171) rfl) rfl
theorem mw_2_172 : Cond.instanceMethod yX5_isMarked ∈ wsL_law := xw_2 _ (List.mem_of_getElem? (i := 172) rfl) rfl
theorem mw_2_173 : Cond.selects RX5 yX5_isMarked yX5_isMarked ∈ wsL_law := xw_2 _ (List.mem_of_getElem? (i := 173) rfl) rfl
theorem mw_2_174 : Cond.code yX5_isMarked cX5_isMarked 3 (some .boolean) ∈ wsL_law := xw_2 _ (List.mem_of_getElem? (i := 174) rfl) rfl
theorem mw_2_175 : Cond.methodLink RX1 112 yX5_feetOf ∈ wsL_law := xw_2 _ (List.mem_of_getElem? (i := 175) rfl) rfl
theorem mw_3_150 : Cond.methodLink RL 40 yX8_march ∈ wsL_law := xw_3 _ (List.mem_of_getElem? (i := 150) rfl) rfl
theorem mw_3_151 : Cond.instanceMethod yX8_march ∈ wsL_law := xw_3 _ (List.mem_of_getElem? (i := 151) rfl) rfl
theorem mw_3_152 : Cond.selects RX8 yX8_march yX8_march ∈ wsL_law := xw_3 _ (List.mem_of_getElem? (i := 152) rfl) rfl
theorem mw_3_153 : Cond.code yX8_march cX8_march 2 (some .int) ∈ wsL_law := xw_3 _ (List.mem_of_getElem? (i := 153) rfl) rfl
theorem mw_3_154 : Cond.methodLink RX8 84 yX8_canMarch ∈ wsL_law := xw_3 _ (List.mem_of_getElem? (i := 154) rfl) rfl
theorem mw_3_156 : Cond.instanceMethod yX8_canMarch ∈ wsL_law := xw_3 _ (List.mem_of_getElem? (i := 156) rfl) rfl
theorem mw_0_6 : Cond.selects RX8 yX8_canMarch yX8_canMarch ∈ wsL_law := xw_0 _ (List.mem_of_getElem? (i := 6) rfl) rfl
theorem mw_3_157 : Cond.code yX8_canMarch cX8_canMarch 1 (some .boolean) ∈ wsL_law := xw_3 _ (List.mem_of_getElem? (i := 157) rfl) rfl
theorem mw_3_158 : Cond.methodLink RX8 88 yX8_marchNow ∈ wsL_law := xw_3 _ (List.mem_of_getElem? (i := 158) rfl) rfl
theorem mw_3_160 : Cond.instanceMethod yX8_marchNow ∈ wsL_law := xw_3 _ (List.mem_of_getElem? (i := 160) rfl) rfl
theorem mw_0_7 : Cond.selects RX8 yX8_marchNow yX8_marchNow ∈ wsL_law := xw_0 _ (List.mem_of_getElem? (i := 7) rfl) rfl
theorem mw_3_161 : Cond.code yX8_marchNow cX8_marchNow 3 (some .int) ∈ wsL_law := xw_3 _ (List.mem_of_getElem? (i := 161) rfl) rfl
theorem mw_3_162 : Cond.methodLink RX8 81 yX8_beat ∈ wsL_law := xw_3 _ (List.mem_of_getElem? (i := 162) rfl) rfl
theorem mw_3_164 : Cond.instanceMethod yX8_beat ∈ wsL_law := xw_3 _ (List.mem_of_getElem? (i := 164) rfl) rfl
theorem mw_0_8 : Cond.selects RX8 yX8_beat yX8_beat ∈ wsL_law := xw_0 _ (List.mem_of_getElem? (i := 8) rfl) rfl
theorem mw_3_165 : Cond.code yX8_beat cX8_beat 2 none ∈ wsL_law := xw_3 _ (List.mem_of_getElem? (i := 165) rfl) rfl
theorem mw_3_93 : Cond.fieldLink RX8 68 "MarchMetresModel" "songEnded" "Z" ∈ wsL_law := xw_3 _ (List.mem_of_getElem? (i := 93) rfl) rfl
theorem mw_3_94 : Cond.fieldLink RX8 57 "MarchMetresModel" "stretchEnded" "Z" ∈ wsL_law := xw_3 _ (List.mem_of_getElem? (i := 94) rfl) rfl
theorem mw_3_166 : Cond.methodLink RX8 71 yX8_climb ∈ wsL_law := xw_3 _ (List.mem_of_getElem? (i := 166) rfl) rfl
theorem mw_3_168 : Cond.instanceMethod yX8_climb ∈ wsL_law := xw_3 _ (List.mem_of_getElem? (i := 168) rfl) rfl
theorem mw_0_9 : Cond.selects RX8 yX8_climb yX8_climb ∈ wsL_law := xw_0 _ (List.mem_of_getElem? (i := 9) rfl) rfl
theorem mw_3_169 : Cond.code yX8_climb cX8_climb 2 (some .int) ∈ wsL_law := xw_3 _ (List.mem_of_getElem? (i := 169) rfl) rfl
theorem mw_3_174 : Cond.methodLink RX8 75 yX8_step ∈ wsL_law := xw_3 _ (List.mem_of_getElem? (i := 174) rfl) rfl
theorem mw_3_176 : Cond.instanceMethod yX8_step ∈ wsL_law := xw_3 _ (List.mem_of_getElem? (i := 176) rfl) rfl
theorem mw_0_11 : Cond.selects RX8 yX8_step yX8_step ∈ wsL_law := xw_0 _ (List.mem_of_getElem? (i := 11) rfl) rfl
theorem mw_3_177 : Cond.code yX8_step cX8_step 1 none ∈ wsL_law := xw_3 _ (List.mem_of_getElem? (i := 177) rfl) rfl
theorem mw_3_178 : Cond.methodLink RX8 78 yX8_goOn ∈ wsL_law := xw_3 _ (List.mem_of_getElem? (i := 178) rfl) rfl
theorem mw_3_180 : Cond.instanceMethod yX8_goOn ∈ wsL_law := xw_3 _ (List.mem_of_getElem? (i := 180) rfl) rfl
theorem mw_0_12 : Cond.selects RX8 yX8_goOn yX8_goOn ∈ wsL_law := xw_0 _ (List.mem_of_getElem? (i := 12) rfl) rfl
theorem mw_3_181 : Cond.code yX8_goOn cX8_goOn 3 none ∈ wsL_law := xw_3 _ (List.mem_of_getElem? (i := 181) rfl) rfl
theorem mw_3_182 : Cond.methodLink RX8 61 yX8_beatsOf ∈ wsL_law := xw_3 _ (List.mem_of_getElem? (i := 182) rfl) rfl
theorem mw_3_184 : Cond.instanceMethod yX8_beatsOf ∈ wsL_law := xw_3 _ (List.mem_of_getElem? (i := 184) rfl) rfl
theorem mw_0_13 : Cond.selects RX8 yX8_beatsOf yX8_beatsOf ∈ wsL_law := xw_0 _ (List.mem_of_getElem? (i := 13) rfl) rfl
theorem mw_3_185 : Cond.code yX8_beatsOf cX8_beatsOf 3 (some .int) ∈ wsL_law := xw_3 _ (List.mem_of_getElem? (i := 185) rfl) rfl
theorem mw_3_186 : Cond.methodLink RX8 64 yX8_hasMark ∈ wsL_law := xw_3 _ (List.mem_of_getElem? (i := 186) rfl) rfl
theorem mw_3_188 : Cond.instanceMethod yX8_hasMark ∈ wsL_law := xw_3 _ (List.mem_of_getElem? (i := 188) rfl) rfl
theorem mw_0_14 : Cond.selects RX8 yX8_hasMark yX8_hasMark ∈ wsL_law := xw_0 _ (List.mem_of_getElem? (i := 14) rfl) rfl
theorem mw_3_189 : Cond.code yX8_hasMark cX8_hasMark 3 (some .boolean) ∈ wsL_law := xw_3 _ (List.mem_of_getElem? (i := 189) rfl) rfl
theorem mw_2_176 : Cond.methodLink RL 41 yX7_line ∈ wsL_law := xw_2 _ (List.mem_of_getElem? (i := 176) rfl) rfl
theorem mw_2_177 : Cond.instanceMethod yX7_line ∈ wsL_law := xw_2 _ (List.mem_of_getElem? (i := 177) rfl) rfl
theorem mw_2_178 : Cond.selects RX7 yX7_line yX7_line ∈ wsL_law := xw_2 _ (List.mem_of_getElem? (i := 178) rfl) rfl
theorem mw_2_179 : Cond.code yX7_line cX7_line 5 (some .int) ∈ wsL_law := xw_2 _ (List.mem_of_getElem? (i := 179) rfl) rfl
theorem mw_2_180 : Cond.methodLink RX7 137 yX5_hasLine ∈ wsL_law := xw_2 _ (List.mem_of_getElem? (i := 180) rfl) rfl
theorem mw_2_181 : Cond.methodLink RX7 140 yX5_beatsOfLine ∈ wsL_law := xw_2 _ (List.mem_of_getElem? (i := 181) rfl) rfl
theorem mw_2_182 : Cond.instanceMethod yX5_beatsOfLine ∈ wsL_law := xw_2 _ (List.mem_of_getElem? (i := 182) rfl) rfl
theorem mw_2_183 : Cond.selects RX5 yX5_beatsOfLine yX5_beatsOfLine ∈ wsL_law := xw_2 _ (List.mem_of_getElem? (i := 183) rfl) rfl
theorem mw_2_184 : Cond.code yX5_beatsOfLine cX5_beatsOfLine 4 (some .int) ∈ wsL_law := xw_2 _ (List.mem_of_getElem? (i := 184) rfl) rfl
theorem mw_2_185 : Cond.methodLink RX5 38 yX5_beatsOf ∈ wsL_law := xw_2 _ (List.mem_of_getElem? (i := 185) rfl) rfl
theorem mw_2_186 : Cond.methodLink RX7 143 yX5_marksOfLine ∈ wsL_law := xw_2 _ (List.mem_of_getElem? (i := 186) rfl) rfl
theorem mw_2_187 : Cond.instanceMethod yX5_marksOfLine ∈ wsL_law := xw_2 _ (List.mem_of_getElem? (i := 187) rfl) rfl
theorem mw_2_188 : Cond.selects RX5 yX5_marksOfLine yX5_marksOfLine ∈ wsL_law := xw_2 _ (List.mem_of_getElem? (i := 188) rfl) rfl
theorem mw_2_189 : Cond.code yX5_marksOfLine cX5_marksOfLine 4 (some .int) ∈ wsL_law := xw_2 _ (List.mem_of_getElem? (i := 189) rfl) rfl
theorem mw_2_190 : Cond.methodLink RX5 42 yX5_isMarked ∈ wsL_law := xw_2 _ (List.mem_of_getElem? (i := 190) rfl) rfl
theorem mw_2_191 : Cond.methodLink RX7 146 yX5_feetOf ∈ wsL_law := xw_2 _ (List.mem_of_getElem? (i := 191) rfl) rfl
theorem mw_4_6 : Cond.methodLink RL 44 yX8_line ∈ wsL_law := xw_4 _ (List.mem_of_getElem? (i := 6) rfl) rfl
theorem mw_4_7 : Cond.instanceMethod yX8_line ∈ wsL_law := xw_4 _ (List.mem_of_getElem? (i := 7) rfl) rfl
theorem mw_4_8 : Cond.selects RX8 yX8_line yX8_line ∈ wsL_law := xw_4 _ (List.mem_of_getElem? (i := 8) rfl) rfl
theorem mw_4_9 : Cond.code yX8_line cX8_line 3 (some .int) ∈ wsL_law := xw_4 _ (List.mem_of_getElem? (i := 9) rfl) rfl
theorem mw_4_10 : Cond.methodLink RX8 122 yX8_isLine ∈ wsL_law := xw_4 _ (List.mem_of_getElem? (i := 10) rfl) rfl
theorem mw_4_12 : Cond.instanceMethod yX8_isLine ∈ wsL_law := xw_4 _ (List.mem_of_getElem? (i := 12) rfl) rfl
theorem mw_0_20 : Cond.selects RX8 yX8_isLine yX8_isLine ∈ wsL_law := xw_0 _ (List.mem_of_getElem? (i := 20) rfl) rfl
theorem mw_4_13 : Cond.code yX8_isLine cX8_isLine 2 (some .boolean) ∈ wsL_law := xw_4 _ (List.mem_of_getElem? (i := 13) rfl) rfl
theorem mw_4_14 : Cond.methodLink RX8 125 yX8_sungIn ∈ wsL_law := xw_4 _ (List.mem_of_getElem? (i := 14) rfl) rfl
theorem mw_4_16 : Cond.instanceMethod yX8_sungIn ∈ wsL_law := xw_4 _ (List.mem_of_getElem? (i := 16) rfl) rfl
theorem mw_0_21 : Cond.selects RX8 yX8_sungIn yX8_sungIn ∈ wsL_law := xw_0 _ (List.mem_of_getElem? (i := 21) rfl) rfl
theorem mw_4_17 : Cond.code yX8_sungIn cX8_sungIn 4 (some .int) ∈ wsL_law := xw_4 _ (List.mem_of_getElem? (i := 17) rfl) rfl
theorem mw_4_18 : Cond.methodLink RX8 128 yX8_marksIn ∈ wsL_law := xw_4 _ (List.mem_of_getElem? (i := 18) rfl) rfl
theorem mw_4_20 : Cond.instanceMethod yX8_marksIn ∈ wsL_law := xw_4 _ (List.mem_of_getElem? (i := 20) rfl) rfl
theorem mw_0_22 : Cond.selects RX8 yX8_marksIn yX8_marksIn ∈ wsL_law := xw_0 _ (List.mem_of_getElem? (i := 22) rfl) rfl
theorem mw_4_21 : Cond.code yX8_marksIn cX8_marksIn 4 (some .int) ∈ wsL_law := xw_4 _ (List.mem_of_getElem? (i := 21) rfl) rfl
theorem mw_2_192 : Cond.methodLink RL 45 yX7_foot ∈ wsL_law := xw_2 _ (List.mem_of_getElem? (i := 192) rfl) rfl
theorem mw_2_193 : Cond.instanceMethod yX7_foot ∈ wsL_law := xw_2 _ (List.mem_of_getElem? (i := 193) rfl) rfl
theorem mw_2_194 : Cond.selects RX7 yX7_foot yX7_foot ∈ wsL_law := xw_2 _ (List.mem_of_getElem? (i := 194) rfl) rfl
theorem mw_2_195 : Cond.code yX7_foot cX7_foot 4 (some .int) ∈ wsL_law := xw_2 _ (List.mem_of_getElem? (i := 195) rfl) rfl
theorem mw_2_196 : Cond.methodLink RX7 149 yX5_hasFoot ∈ wsL_law := xw_2 _ (List.mem_of_getElem? (i := 196) rfl) rfl
theorem mw_2_197 : Cond.methodLink RX7 152 yX5_beatsOf ∈ wsL_law := xw_2 _ (List.mem_of_getElem? (i := 197) rfl) rfl
theorem mw_2_198 : Cond.methodLink RX7 156 yX5_isMarked ∈ wsL_law := xw_2 _ (List.mem_of_getElem? (i := 198) rfl) rfl
theorem mw_4_22 : Cond.methodLink RL 49 yX8_foot ∈ wsL_law := xw_4 _ (List.mem_of_getElem? (i := 22) rfl) rfl
theorem mw_4_23 : Cond.instanceMethod yX8_foot ∈ wsL_law := xw_4 _ (List.mem_of_getElem? (i := 23) rfl) rfl
theorem mw_4_24 : Cond.selects RX8 yX8_foot yX8_foot ∈ wsL_law := xw_4 _ (List.mem_of_getElem? (i := 24) rfl) rfl
theorem mw_4_25 : Cond.code yX8_foot cX8_foot 4 (some .int) ∈ wsL_law := xw_4 _ (List.mem_of_getElem? (i := 25) rfl) rfl
theorem mw_2_199 : Cond.methodLink RL 50 yX7_stretch ∈ wsL_law := xw_2 _ (List.mem_of_getElem? (i := 199) rfl) rfl
theorem mw_2_200 : Cond.instanceMethod yX7_stretch ∈ wsL_law := xw_2 _ (List.mem_of_getElem? (i := 200) rfl) rfl
theorem mw_2_201 : Cond.selects RX7 yX7_stretch yX7_stretch ∈ wsL_law := xw_2 _ (List.mem_of_getElem? (i := 201) rfl) rfl
theorem mw_2_202 : Cond.code yX7_stretch cX7_stretch 3 (some .int) ∈ wsL_law := xw_2 _ (List.mem_of_getElem? (i := 202) rfl) rfl
theorem mw_2_203 : Cond.methodLink RX7 159 yX3_slopeOf ∈ wsL_law := xw_2 _ (List.mem_of_getElem? (i := 203) rfl) rfl
theorem mw_2_204 : Cond.methodLink RX7 162 yX3_isMuddy ∈ wsL_law := xw_2 _ (List.mem_of_getElem? (i := 204) rfl) rfl
theorem mw_2_205 : Cond.methodLink RX7 165 yX3_beatsToSing ∈ wsL_law := xw_2 _ (List.mem_of_getElem? (i := 205) rfl) rfl
theorem mw_2_206 : Cond.instanceMethod yX3_beatsToSing ∈ wsL_law := xw_2 _ (List.mem_of_getElem? (i := 206) rfl) rfl
theorem mw_2_207 : Cond.selects RX3 yX3_beatsToSing yX3_beatsToSing ∈ wsL_law := xw_2 _ (List.mem_of_getElem? (i := 207) rfl) rfl
theorem mw_2_208 : Cond.code yX3_beatsToSing cX3_beatsToSing 4 (some .int) ∈ wsL_law := xw_2 _ (List.mem_of_getElem? (i := 208) rfl) rfl
theorem mw_2_209 : Cond.methodLink RX3 30 yX3_stepsOf ∈ wsL_law := xw_2 _ (List.mem_of_getElem? (i := 209) rfl) rfl
theorem mw_2_210 : Cond.methodLink RX3 34 yX3_isMuddy ∈ wsL_law := xw_2 _ (List.mem_of_getElem? (i := 210) rfl) rfl
theorem mw_4_26 : Cond.methodLink RL 53 yX8_stretch ∈ wsL_law := xw_4 _ (List.mem_of_getElem? (i := 26) rfl) rfl
theorem mw_4_27 : Cond.instanceMethod yX8_stretch ∈ wsL_law := xw_4 _ (List.mem_of_getElem? (i := 27) rfl) rfl
theorem mw_4_28 : Cond.selects RX8 yX8_stretch yX8_stretch ∈ wsL_law := xw_4 _ (List.mem_of_getElem? (i := 28) rfl) rfl
theorem mw_4_29 : Cond.code yX8_stretch cX8_stretch 3 (some .int) ∈ wsL_law := xw_4 _ (List.mem_of_getElem? (i := 29) rfl) rfl
theorem mw_4_30 : Cond.methodLink RX8 131 yX8_sungFor ∈ wsL_law := xw_4 _ (List.mem_of_getElem? (i := 30) rfl) rfl
theorem mw_4_32 : Cond.instanceMethod yX8_sungFor ∈ wsL_law := xw_4 _ (List.mem_of_getElem? (i := 32) rfl) rfl
theorem mw_0_23 : Cond.selects RX8 yX8_sungFor yX8_sungFor ∈ wsL_law := xw_0 _ (List.mem_of_getElem? (i := 23) rfl) rfl
theorem mw_4_33 : Cond.code yX8_sungFor cX8_sungFor 5 (some .int) ∈ wsL_law := xw_4 _ (List.mem_of_getElem? (i := 33) rfl) rfl
theorem mw_2_211 : Cond.methodLink RL 54 yX7_walk ∈ wsL_law := xw_2 _ (List.mem_of_getElem? (i := 211) rfl) rfl
theorem mw_2_212 : Cond.instanceMethod yX7_walk ∈ wsL_law := xw_2 _ (List.mem_of_getElem? (i := 212) rfl) rfl
theorem mw_2_213 : Cond.selects RX7 yX7_walk yX7_walk ∈ wsL_law := xw_2 _ (List.mem_of_getElem? (i := 213) rfl) rfl
theorem mw_2_214 : Cond.code yX7_walk cX7_walk 2 (some .int) ∈ wsL_law := xw_2 _ (List.mem_of_getElem? (i := 214) rfl) rfl
theorem mw_4_34 : Cond.methodLink RL 57 yX8_walk ∈ wsL_law := xw_4 _ (List.mem_of_getElem? (i := 34) rfl) rfl
theorem mw_4_35 : Cond.instanceMethod yX8_walk ∈ wsL_law := xw_4 _ (List.mem_of_getElem? (i := 35) rfl) rfl
theorem mw_4_36 : Cond.selects RX8 yX8_walk yX8_walk ∈ wsL_law := xw_4 _ (List.mem_of_getElem? (i := 36) rfl) rfl
theorem mw_4_37 : Cond.code yX8_walk cX8_walk 2 (some .int) ∈ wsL_law := xw_4 _ (List.mem_of_getElem? (i := 37) rfl) rfl
theorem mw_2_215 : Cond.methodLink RL 58 yX7_count ∈ wsL_law := xw_2 _ (List.mem_of_getElem? (i := 215) rfl) rfl
theorem mw_2_216 : Cond.instanceMethod yX7_count ∈ wsL_law := xw_2 _ (List.mem_of_getElem? (i := 216) rfl) rfl
theorem mw_2_217 : Cond.selects RX7 yX7_count yX7_count ∈ wsL_law := xw_2 _ (List.mem_of_getElem? (i := 217) rfl) rfl
theorem mw_2_218 : Cond.code yX7_count cX7_count 2 (some .int) ∈ wsL_law := xw_2 _ (List.mem_of_getElem? (i := 218) rfl) rfl
theorem mw_2_219 : Cond.methodLink RX7 207 yX5_allBeats ∈ wsL_law := xw_2 _ (List.mem_of_getElem? (i := 219) rfl) rfl
theorem mw_2_220 : Cond.instanceMethod yX5_allBeats ∈ wsL_law := xw_2 _ (List.mem_of_getElem? (i := 220) rfl) rfl
theorem mw_2_221 : Cond.selects RX5 yX5_allBeats yX5_allBeats ∈ wsL_law := xw_2 _ (List.mem_of_getElem? (i := 221) rfl) rfl
theorem mw_2_222 : Cond.code yX5_allBeats cX5_allBeats 3 (some .int) ∈ wsL_law := xw_2 _ (List.mem_of_getElem? (i := 222) rfl) rfl
theorem mw_2_223 : Cond.methodLink RX5 45 yX5_beatsOfLine ∈ wsL_law := xw_2 _ (List.mem_of_getElem? (i := 223) rfl) rfl
theorem mw_2_224 : Cond.methodLink RX7 210 yX5_allMarks ∈ wsL_law := xw_2 _ (List.mem_of_getElem? (i := 224) rfl) rfl
theorem mw_2_225 : Cond.instanceMethod yX5_allMarks ∈ wsL_law := xw_2 _ (List.mem_of_getElem? (i := 225) rfl) rfl
theorem mw_2_226 : Cond.selects RX5 yX5_allMarks yX5_allMarks ∈ wsL_law := xw_2 _ (List.mem_of_getElem? (i := 226) rfl) rfl
theorem mw_2_227 : Cond.code yX5_allMarks cX5_allMarks 3 (some .int) ∈ wsL_law := xw_2 _ (List.mem_of_getElem? (i := 227) rfl) rfl
theorem mw_2_228 : Cond.methodLink RX5 48 yX5_marksOfLine ∈ wsL_law := xw_2 _ (List.mem_of_getElem? (i := 228) rfl) rfl
theorem mw_2_229 : Cond.methodLink RX7 213 yX3_allSteps ∈ wsL_law := xw_2 _ (List.mem_of_getElem? (i := 229) rfl) rfl
theorem mw_2_230 : Cond.instanceMethod yX3_allSteps ∈ wsL_law := xw_2 _ (List.mem_of_getElem? (i := 230) rfl) rfl
theorem mw_2_231 : Cond.selects RX3 yX3_allSteps yX3_allSteps ∈ wsL_law := xw_2 _ (List.mem_of_getElem? (i := 231) rfl) rfl
theorem mw_2_232 : Cond.code yX3_allSteps cX3_allSteps 3 (some .int) ∈ wsL_law := xw_2 _ (List.mem_of_getElem? (i := 232) rfl) rfl
theorem mw_4_38 : Cond.methodLink RL 61 yX8_count ∈ wsL_law := xw_4 _ (List.mem_of_getElem? (i := 38) rfl) rfl
theorem mw_4_39 : Cond.instanceMethod yX8_count ∈ wsL_law := xw_4 _ (List.mem_of_getElem? (i := 39) rfl) rfl
theorem mw_4_40 : Cond.selects RX8 yX8_count yX8_count ∈ wsL_law := xw_4 _ (List.mem_of_getElem? (i := 40) rfl) rfl
theorem mw_4_41 : Cond.code yX8_count cX8_count 2 (some .int) ∈ wsL_law := xw_4 _ (List.mem_of_getElem? (i := 41) rfl) rfl
theorem mw_4_42 : Cond.methodLink RX8 135 yX8_sungInSong ∈ wsL_law := xw_4 _ (List.mem_of_getElem? (i := 42) rfl) rfl
theorem mw_4_44 : Cond.instanceMethod yX8_sungInSong ∈ wsL_law := xw_4 _ (List.mem_of_getElem? (i := 44) rfl) rfl
theorem mw_0_24 : Cond.selects RX8 yX8_sungInSong yX8_sungInSong ∈ wsL_law := xw_0 _ (List.mem_of_getElem? (i := 24) rfl) rfl
theorem mw_4_45 : Cond.code yX8_sungInSong cX8_sungInSong 3 (some .int) ∈ wsL_law := xw_4 _ (List.mem_of_getElem? (i := 45) rfl) rfl
theorem mw_4_46 : Cond.methodLink RX8 138 yX8_marksInSong ∈ wsL_law := xw_4 _ (List.mem_of_getElem? (i := 46) rfl) rfl
theorem mw_4_48 : Cond.instanceMethod yX8_marksInSong ∈ wsL_law := xw_4 _ (List.mem_of_getElem? (i := 48) rfl) rfl
theorem mw_0_25 : Cond.selects RX8 yX8_marksInSong yX8_marksInSong ∈ wsL_law := xw_0 _ (List.mem_of_getElem? (i := 25) rfl) rfl
theorem mw_4_49 : Cond.code yX8_marksInSong cX8_marksInSong 3 (some .int) ∈ wsL_law := xw_4 _ (List.mem_of_getElem? (i := 49) rfl) rfl
theorem mw_4_50 : Cond.methodLink RX8 141 yX8_stepsOfRoad ∈ wsL_law := xw_4 _ (List.mem_of_getElem? (i := 50) rfl) rfl
theorem mw_4_52 : Cond.instanceMethod yX8_stepsOfRoad ∈ wsL_law := xw_4 _ (List.mem_of_getElem? (i := 52) rfl) rfl
theorem mw_0_26 : Cond.selects RX8 yX8_stepsOfRoad yX8_stepsOfRoad ∈ wsL_law := xw_0 _ (List.mem_of_getElem? (i := 26) rfl) rfl
theorem mw_4_53 : Cond.code yX8_stepsOfRoad cX8_stepsOfRoad 3 (some .int) ∈ wsL_law := xw_4 _ (List.mem_of_getElem? (i := 53) rfl) rfl
theorem mw_2_233 : Cond.methodLink RL 62 yX7_untilWalked ∈ wsL_law := xw_2 _ (List.mem_of_getElem? (i := 233) rfl) rfl
theorem mw_2_234 : Cond.instanceMethod yX7_untilWalked ∈ wsL_law := xw_2 _ (List.mem_of_getElem? (i := 234) rfl) rfl
theorem mw_2_235 : Cond.selects RX7 yX7_untilWalked yX7_untilWalked ∈ wsL_law := xw_2 _ (List.mem_of_getElem? (i := 235) rfl) rfl
theorem mw_2_236 : Cond.code yX7_untilWalked cX7_untilWalked 2 (some .int) ∈ wsL_law := xw_2 _ (List.mem_of_getElem? (i := 236) rfl) rfl
theorem mw_2_237 : Cond.methodLink RX7 221 yX1_copyFrom ∈ wsL_law := xw_2 _ (List.mem_of_getElem? (i := 237) rfl) rfl
theorem mw_4_54 : Cond.methodLink RL 65 yX8_untilWalked ∈ wsL_law := xw_4 _ (List.mem_of_getElem? (i := 54) rfl) rfl
theorem mw_4_55 : Cond.instanceMethod yX8_untilWalked ∈ wsL_law := xw_4 _ (List.mem_of_getElem? (i := 55) rfl) rfl
theorem mw_4_56 : Cond.selects RX8 yX8_untilWalked yX8_untilWalked ∈ wsL_law := xw_4 _ (List.mem_of_getElem? (i := 56) rfl) rfl
theorem mw_4_57 : Cond.code yX8_untilWalked cX8_untilWalked 4 (some .int) ∈ wsL_law := xw_4 _ (List.mem_of_getElem? (i := 57) rfl) rfl
theorem mw_2_238 : Cond.methodLink RL 66 yX7_together ∈ wsL_law := xw_2 _ (List.mem_of_getElem? (i := 238) rfl) rfl
theorem mw_2_239 : Cond.instanceMethod yX7_together ∈ wsL_law := xw_2 _ (List.mem_of_getElem? (i := 239) rfl) rfl
theorem mw_3_0 : Cond.selects RX7 yX7_together yX7_together ∈ wsL_law := xw_3 _ (List.mem_of_getElem? (i := 0) rfl) rfl
theorem mw_3_1 : Cond.code yX7_together cX7_together 4 (some .int) ∈ wsL_law := xw_3 _ (List.mem_of_getElem? (i := 1) rfl) rfl
theorem mw_3_2 : Cond.methodLink RX7 225 yX1_goOn ∈ wsL_law := xw_3 _ (List.mem_of_getElem? (i := 2) rfl) rfl
theorem mw_4_58 : Cond.methodLink RL 69 yX8_together ∈ wsL_law := xw_4 _ (List.mem_of_getElem? (i := 58) rfl) rfl
theorem mw_4_59 : Cond.instanceMethod yX8_together ∈ wsL_law := xw_4 _ (List.mem_of_getElem? (i := 59) rfl) rfl
theorem mw_4_60 : Cond.selects RX8 yX8_together yX8_together ∈ wsL_law := xw_4 _ (List.mem_of_getElem? (i := 60) rfl) rfl
theorem mw_4_61 : Cond.code yX8_together cX8_together 3 (some .int) ∈ wsL_law := xw_4 _ (List.mem_of_getElem? (i := 61) rfl) rfl
theorem mw_3_3 : Cond.methodLink RL 70 yX7_meets ∈ wsL_law := xw_3 _ (List.mem_of_getElem? (i := 3) rfl) rfl
theorem mw_3_4 : Cond.instanceMethod yX7_meets ∈ wsL_law := xw_3 _ (List.mem_of_getElem? (i := 4) rfl) rfl
theorem mw_3_5 : Cond.selects RX7 yX7_meets yX7_meets ∈ wsL_law := xw_3 _ (List.mem_of_getElem? (i := 5) rfl) rfl
theorem mw_3_6 : Cond.code yX7_meets cX7_meets 5 (some .int) ∈ wsL_law := xw_3 _ (List.mem_of_getElem? (i := 6) rfl) rfl
theorem mw_3_7 : Cond.methodLink RX7 229 yX7_songsByCounting ∈ wsL_law := xw_3 _ (List.mem_of_getElem? (i := 7) rfl) rfl
theorem mw_3_8 : Cond.static yX7_songsByCounting ∈ wsL_law := xw_3 _ (List.mem_of_getElem? (i := 8) rfl) rfl
theorem mw_3_9 : Cond.code yX7_songsByCounting cX7_songsByCounting 3 (some .int) ∈ wsL_law := xw_3 _ (List.mem_of_getElem? (i := 9) rfl) rfl
theorem mw_3_10 : Cond.methodLink RX7 232 yX7_songsAtOnce ∈ wsL_law := xw_3 _ (List.mem_of_getElem? (i := 10) rfl) rfl
theorem mw_3_11 : Cond.static yX7_songsAtOnce ∈ wsL_law := xw_3 _ (List.mem_of_getElem? (i := 11) rfl) rfl
theorem mw_3_12 : Cond.code yX7_songsAtOnce cX7_songsAtOnce 3 (some .int) ∈ wsL_law := xw_3 _ (List.mem_of_getElem? (i := 12) rfl) rfl
theorem mw_3_13 : Cond.methodLink RX7 276 yX7_greatestShared ∈ wsL_law := xw_3 _ (List.mem_of_getElem? (i := 13) rfl) rfl
theorem mw_3_14 : Cond.static yX7_greatestShared ∈ wsL_law := xw_3 _ (List.mem_of_getElem? (i := 14) rfl) rfl
theorem mw_3_15 : Cond.code yX7_greatestShared cX7_greatestShared 6 (some .int) ∈ wsL_law := xw_3 _ (List.mem_of_getElem? (i := 15) rfl) rfl
theorem mw_4_62 : Cond.methodLink RL 73 yX8_meets ∈ wsL_law := xw_4 _ (List.mem_of_getElem? (i := 62) rfl) rfl
theorem mw_4_63 : Cond.instanceMethod yX8_meets ∈ wsL_law := xw_4 _ (List.mem_of_getElem? (i := 63) rfl) rfl
theorem mw_4_64 : Cond.selects RX8 yX8_meets yX8_meets ∈ wsL_law := xw_4 _ (List.mem_of_getElem? (i := 64) rfl) rfl
theorem mw_4_65 : Cond.code yX8_meets cX8_meets 4 (some .int) ∈ wsL_law := xw_4 _ (List.mem_of_getElem? (i := 65) rfl) rfl
theorem mw_3_16 : Cond.methodLink RL 74 yX7_leastBreath ∈ wsL_law := xw_3 _ (List.mem_of_getElem? (i := 16) rfl) rfl
theorem mw_3_17 : Cond.instanceMethod yX7_leastBreath ∈ wsL_law := xw_3 _ (List.mem_of_getElem? (i := 17) rfl) rfl
theorem mw_3_18 : Cond.selects RX7 yX7_leastBreath yX7_leastBreath ∈ wsL_law := xw_3 _ (List.mem_of_getElem? (i := 18) rfl) rfl
theorem mw_3_19 : Cond.code yX7_leastBreath cX7_leastBreath 3 (some .int) ∈ wsL_law := xw_3 _ (List.mem_of_getElem? (i := 19) rfl) rfl
theorem mw_3_21 : Cond.constant RX7 238 (1000000) ∈ wsL_law := xw_3 _ (List.mem_of_getElem? (i := 21) rfl) rfl
theorem mw_3_23 : Cond.methodLink RX7 242 Lib.Math.min.name ∈ wsL_law := xw_3 _ (List.mem_of_getElem? (i := 23) rfl) rfl
theorem mw_3_24 : Cond.fieldLink RX7 247 "MarchMetres" "LEAST_VALUES" "[I" ∈ wsL_law := xw_3 _ (List.mem_of_getElem? (i := 24) rfl) rfl
theorem mw_3_25 : Cond.methodLink RX7 251 Lib.Math.max.name ∈ wsL_law := xw_3 _ (List.mem_of_getElem? (i := 25) rfl) rfl
theorem mw_3_26 : Cond.fieldLink RX7 254 "MarchMetres" "MOST_VALUES" "[I" ∈ wsL_law := xw_3 _ (List.mem_of_getElem? (i := 26) rfl) rfl
theorem mw_3_20 : Cond.methodLink RX7 235 yX4_copyFrom ∈ wsL_law := xw_3 _ (List.mem_of_getElem? (i := 20) rfl) rfl
theorem mw_3_22 : Cond.methodLink RX7 239 yX1_startAnew ∈ wsL_law := xw_3 _ (List.mem_of_getElem? (i := 22) rfl) rfl
theorem mw_4_66 : Cond.methodLink RL 77 yX8_leastBreath ∈ wsL_law := xw_4 _ (List.mem_of_getElem? (i := 66) rfl) rfl
theorem mw_4_67 : Cond.instanceMethod yX8_leastBreath ∈ wsL_law := xw_4 _ (List.mem_of_getElem? (i := 67) rfl) rfl
theorem mw_4_68 : Cond.selects RX8 yX8_leastBreath yX8_leastBreath ∈ wsL_law := xw_4 _ (List.mem_of_getElem? (i := 68) rfl) rfl
theorem mw_4_69 : Cond.code yX8_leastBreath cX8_leastBreath 3 (some .int) ∈ wsL_law := xw_4 _ (List.mem_of_getElem? (i := 69) rfl) rfl
theorem mw_4_70 : Cond.methodLink RX8 144 yX8_isWalkedAnew ∈ wsL_law := xw_4 _ (List.mem_of_getElem? (i := 70) rfl) rfl
theorem mw_4_72 : Cond.instanceMethod yX8_isWalkedAnew ∈ wsL_law := xw_4 _ (List.mem_of_getElem? (i := 72) rfl) rfl
theorem mw_0_27 : Cond.selects RX8 yX8_isWalkedAnew yX8_isWalkedAnew ∈ wsL_law := xw_0 _ (List.mem_of_getElem? (i := 27) rfl) rfl
theorem mw_4_73 : Cond.code yX8_isWalkedAnew cX8_isWalkedAnew 1 (some .boolean) ∈ wsL_law := xw_4 _ (List.mem_of_getElem? (i := 73) rfl) rfl
theorem mw_3_27 : Cond.methodLink RL 78 yX7_bestPause ∈ wsL_law := xw_3 _ (List.mem_of_getElem? (i := 27) rfl) rfl
theorem mw_3_28 : Cond.instanceMethod yX7_bestPause ∈ wsL_law := xw_3 _ (List.mem_of_getElem? (i := 28) rfl) rfl
theorem mw_3_29 : Cond.selects RX7 yX7_bestPause yX7_bestPause ∈ wsL_law := xw_3 _ (List.mem_of_getElem? (i := 29) rfl) rfl
theorem mw_3_30 : Cond.code yX7_bestPause cX7_bestPause 4 (some .int) ∈ wsL_law := xw_3 _ (List.mem_of_getElem? (i := 30) rfl) rfl
theorem mw_4_74 : Cond.methodLink RL 81 yX8_bestPause ∈ wsL_law := xw_4 _ (List.mem_of_getElem? (i := 74) rfl) rfl
theorem mw_4_75 : Cond.instanceMethod yX8_bestPause ∈ wsL_law := xw_4 _ (List.mem_of_getElem? (i := 75) rfl) rfl
theorem mw_4_76 : Cond.selects RX8 yX8_bestPause yX8_bestPause ∈ wsL_law := xw_4 _ (List.mem_of_getElem? (i := 76) rfl) rfl
theorem mw_4_77 : Cond.code yX8_bestPause cX8_bestPause 5 (some .int) ∈ wsL_law := xw_4 _ (List.mem_of_getElem? (i := 77) rfl) rfl
theorem mw_3_31 : Cond.methodLink RL 84 yX7_put ∈ wsL_law := xw_3 _ (List.mem_of_getElem? (i := 31) rfl) rfl
theorem mw_3_32 : Cond.instanceMethod yX7_put ∈ wsL_law := xw_3 _ (List.mem_of_getElem? (i := 32) rfl) rfl
theorem mw_3_33 : Cond.selects RX7 yX7_put yX7_put ∈ wsL_law := xw_3 _ (List.mem_of_getElem? (i := 33) rfl) rfl
theorem mw_3_34 : Cond.code yX7_put cX7_put 5 (some .int) ∈ wsL_law := xw_3 _ (List.mem_of_getElem? (i := 34) rfl) rfl
theorem mw_3_35 : Cond.methodLink RX7 257 yX2_charactersIn ∈ wsL_law := xw_3 _ (List.mem_of_getElem? (i := 35) rfl) rfl
theorem mw_3_36 : Cond.static yX2_charactersIn ∈ wsL_law := xw_3 _ (List.mem_of_getElem? (i := 36) rfl) rfl
theorem mw_3_37 : Cond.code yX2_charactersIn cX2_charactersIn 6 (some .int) ∈ wsL_law := xw_3 _ (List.mem_of_getElem? (i := 37) rfl) rfl
theorem mw_3_38 : Cond.methodLink RX2 15 yX2_codeIn ∈ wsL_law := xw_3 _ (List.mem_of_getElem? (i := 38) rfl) rfl
theorem mw_3_39 : Cond.static yX2_codeIn ∈ wsL_law := xw_3 _ (List.mem_of_getElem? (i := 39) rfl) rfl
theorem mw_3_40 : Cond.code yX2_codeIn cX2_codeIn 3 (some .int) ∈ wsL_law := xw_3 _ (List.mem_of_getElem? (i := 40) rfl) rfl
theorem mw_3_41 : Cond.constantLong RX2 19 (255) ∈ wsL_law := xw_3 _ (List.mem_of_getElem? (i := 41) rfl) rfl
theorem mw_3_42 : Cond.methodLink RX7 261 yX2_codeIn ∈ wsL_law := xw_3 _ (List.mem_of_getElem? (i := 42) rfl) rfl
theorem mw_3_43 : Cond.methodLink RX7 265 yX2_append ∈ wsL_law := xw_3 _ (List.mem_of_getElem? (i := 43) rfl) rfl
theorem mw_3_44 : Cond.instanceMethod yX2_append ∈ wsL_law := xw_3 _ (List.mem_of_getElem? (i := 44) rfl) rfl
theorem mw_3_45 : Cond.selects RX2 yX2_append yX2_append ∈ wsL_law := xw_3 _ (List.mem_of_getElem? (i := 45) rfl) rfl
theorem mw_3_46 : Cond.code yX2_append cX2_append 2 none ∈ wsL_law := xw_3 _ (List.mem_of_getElem? (i := 46) rfl) rfl
theorem mw_3_213 : Cond.methodLink RL 88 yX8_put ∈ wsL_law := xw_3 _ (List.mem_of_getElem? (i := 213) rfl) rfl
theorem mw_3_214 : Cond.instanceMethod yX8_put ∈ wsL_law := xw_3 _ (List.mem_of_getElem? (i := 214) rfl) rfl
theorem mw_3_215 : Cond.selects RX8 yX8_put yX8_put ∈ wsL_law := xw_3 _ (List.mem_of_getElem? (i := 215) rfl) rfl
theorem mw_3_216 : Cond.code yX8_put cX8_put 7 (some .int) ∈ wsL_law := xw_3 _ (List.mem_of_getElem? (i := 216) rfl) rfl
theorem mw_3_217 : Cond.constantLong RX8 99 (255) ∈ wsL_law := xw_3 _ (List.mem_of_getElem? (i := 217) rfl) rfl
theorem mw_3_47 : Cond.methodLink RL 89 yX7_wipe ∈ wsL_law := xw_3 _ (List.mem_of_getElem? (i := 47) rfl) rfl
theorem mw_3_48 : Cond.instanceMethod yX7_wipe ∈ wsL_law := xw_3 _ (List.mem_of_getElem? (i := 48) rfl) rfl
theorem mw_3_49 : Cond.selects RX7 yX7_wipe yX7_wipe ∈ wsL_law := xw_3 _ (List.mem_of_getElem? (i := 49) rfl) rfl
theorem mw_3_50 : Cond.code yX7_wipe cX7_wipe 2 (some .int) ∈ wsL_law := xw_3 _ (List.mem_of_getElem? (i := 50) rfl) rfl
theorem mw_3_218 : Cond.methodLink RL 92 yX8_wipe ∈ wsL_law := xw_3 _ (List.mem_of_getElem? (i := 218) rfl) rfl
theorem mw_3_219 : Cond.instanceMethod yX8_wipe ∈ wsL_law := xw_3 _ (List.mem_of_getElem? (i := 219) rfl) rfl
theorem mw_3_220 : Cond.selects RX8 yX8_wipe yX8_wipe ∈ wsL_law := xw_3 _ (List.mem_of_getElem? (i := 220) rfl) rfl
theorem mw_3_221 : Cond.code yX8_wipe cX8_wipe 2 (some .int) ∈ wsL_law := xw_3 _ (List.mem_of_getElem? (i := 221) rfl) rfl
theorem mw_3_51 : Cond.methodLink RL 93 yX7_fault ∈ wsL_law := xw_3 _ (List.mem_of_getElem? (i := 51) rfl) rfl
theorem mw_3_52 : Cond.instanceMethod yX7_fault ∈ wsL_law := xw_3 _ (List.mem_of_getElem? (i := 52) rfl) rfl
theorem mw_3_53 : Cond.selects RX7 yX7_fault yX7_fault ∈ wsL_law := xw_3 _ (List.mem_of_getElem? (i := 53) rfl) rfl
theorem mw_3_54 : Cond.code yX7_fault cX7_fault 1 (some .int) ∈ wsL_law := xw_3 _ (List.mem_of_getElem? (i := 54) rfl) rfl
theorem mw_3_222 : Cond.methodLink RL 96 yX8_fault ∈ wsL_law := xw_3 _ (List.mem_of_getElem? (i := 222) rfl) rfl
theorem mw_3_223 : Cond.instanceMethod yX8_fault ∈ wsL_law := xw_3 _ (List.mem_of_getElem? (i := 223) rfl) rfl
theorem mw_3_224 : Cond.selects RX8 yX8_fault yX8_fault ∈ wsL_law := xw_3 _ (List.mem_of_getElem? (i := 224) rfl) rfl
theorem mw_3_225 : Cond.code yX8_fault cX8_fault 1 (some .int) ∈ wsL_law := xw_3 _ (List.mem_of_getElem? (i := 225) rfl) rfl
theorem mw_3_55 : Cond.methodLink RL 97 yX7_undo ∈ wsL_law := xw_3 _ (List.mem_of_getElem? (i := 55) rfl) rfl
theorem mw_3_56 : Cond.instanceMethod yX7_undo ∈ wsL_law := xw_3 _ (List.mem_of_getElem? (i := 56) rfl) rfl
theorem mw_3_57 : Cond.selects RX7 yX7_undo yX7_undo ∈ wsL_law := xw_3 _ (List.mem_of_getElem? (i := 57) rfl) rfl
theorem mw_3_58 : Cond.code yX7_undo cX7_undo 1 (some .int) ∈ wsL_law := xw_3 _ (List.mem_of_getElem? (i := 58) rfl) rfl
theorem mw_3_59 : Cond.methodLink RX7 268 yX0_takeBackInto ∈ wsL_law := xw_3 _ (List.mem_of_getElem? (i := 59) rfl) rfl
theorem mw_3_60 : Cond.instanceMethod yX0_takeBackInto ∈ wsL_law := xw_3 _ (List.mem_of_getElem? (i := 60) rfl) rfl
theorem mw_3_61 : Cond.selects RX0 yX0_takeBackInto yX0_takeBackInto ∈ wsL_law := xw_3 _ (List.mem_of_getElem? (i := 61) rfl) rfl
theorem mw_3_62 : Cond.code yX0_takeBackInto cX0_takeBackInto 3 none ∈ wsL_law := xw_3 _ (List.mem_of_getElem? (i := 62) rfl) rfl
theorem mw_3_128 : Cond.methodLink RL 100 yX8_undo ∈ wsL_law := xw_3 _ (List.mem_of_getElem? (i := 128) rfl) rfl
theorem mw_3_129 : Cond.instanceMethod yX8_undo ∈ wsL_law := xw_3 _ (List.mem_of_getElem? (i := 129) rfl) rfl
theorem mw_3_130 : Cond.selects RX8 yX8_undo yX8_undo ∈ wsL_law := xw_3 _ (List.mem_of_getElem? (i := 130) rfl) rfl
theorem mw_3_131 : Cond.code yX8_undo cX8_undo 1 (some .int) ∈ wsL_law := xw_3 _ (List.mem_of_getElem? (i := 131) rfl) rfl
theorem mw_3_63 : Cond.methodLink RL 101 yX7_save ∈ wsL_law := xw_3 _ (List.mem_of_getElem? (i := 63) rfl) rfl
theorem mw_3_64 : Cond.instanceMethod yX7_save ∈ wsL_law := xw_3 _ (List.mem_of_getElem? (i := 64) rfl) rfl
theorem mw_3_65 : Cond.selects RX7 yX7_save yX7_save ∈ wsL_law := xw_3 _ (List.mem_of_getElem? (i := 65) rfl) rfl
theorem mw_3_66 : Cond.code yX7_save cX7_save 3 (some .int) ∈ wsL_law := xw_3 _ (List.mem_of_getElem? (i := 66) rfl) rfl
theorem mw_3_67 : Cond.methodLink RX7 271 yX7_isSlot ∈ wsL_law := xw_3 _ (List.mem_of_getElem? (i := 67) rfl) rfl
theorem mw_3_68 : Cond.static yX7_isSlot ∈ wsL_law := xw_3 _ (List.mem_of_getElem? (i := 68) rfl) rfl
theorem mw_3_69 : Cond.code yX7_isSlot cX7_isSlot 1 (some .boolean) ∈ wsL_law := xw_3 _ (List.mem_of_getElem? (i := 69) rfl) rfl
theorem mw_3_70 : Cond.methodLink RX7 274 yX6_copyFrom ∈ wsL_law := xw_3 _ (List.mem_of_getElem? (i := 70) rfl) rfl
theorem mw_3_135 : Cond.methodLink RL 104 yX8_save ∈ wsL_law := xw_3 _ (List.mem_of_getElem? (i := 135) rfl) rfl
theorem mw_3_136 : Cond.instanceMethod yX8_save ∈ wsL_law := xw_3 _ (List.mem_of_getElem? (i := 136) rfl) rfl
theorem mw_3_137 : Cond.selects RX8 yX8_save yX8_save ∈ wsL_law := xw_3 _ (List.mem_of_getElem? (i := 137) rfl) rfl
theorem mw_3_138 : Cond.code yX8_save cX8_save 2 (some .int) ∈ wsL_law := xw_3 _ (List.mem_of_getElem? (i := 138) rfl) rfl
theorem mw_3_71 : Cond.methodLink RL 105 yX7_restore ∈ wsL_law := xw_3 _ (List.mem_of_getElem? (i := 71) rfl) rfl
theorem mw_3_72 : Cond.instanceMethod yX7_restore ∈ wsL_law := xw_3 _ (List.mem_of_getElem? (i := 72) rfl) rfl
theorem mw_3_73 : Cond.selects RX7 yX7_restore yX7_restore ∈ wsL_law := xw_3 _ (List.mem_of_getElem? (i := 73) rfl) rfl
theorem mw_3_74 : Cond.code yX7_restore cX7_restore 3 (some .int) ∈ wsL_law := xw_3 _ (List.mem_of_getElem? (i := 74) rfl) rfl
theorem mw_3_142 : Cond.methodLink RL 108 yX8_restore ∈ wsL_law := xw_3 _ (List.mem_of_getElem? (i := 142) rfl) rfl
theorem mw_3_143 : Cond.instanceMethod yX8_restore ∈ wsL_law := xw_3 _ (List.mem_of_getElem? (i := 143) rfl) rfl
theorem mw_3_144 : Cond.selects RX8 yX8_restore yX8_restore ∈ wsL_law := xw_3 _ (List.mem_of_getElem? (i := 144) rfl) rfl
theorem mw_3_145 : Cond.code yX8_restore cX8_restore 2 (some .int) ∈ wsL_law := xw_3 _ (List.mem_of_getElem? (i := 145) rfl) rfl
theorem inlX0 : ∀ w ∈ wsX00, w ∈ wsL_law := List.forall_mem_cons.mpr ⟨xw_1 _ (List.mem_of_getElem? (i := 177) rfl) rfl, List.forall_mem_cons.mpr ⟨xw_1 _ (List.mem_of_getElem? (i := 179) rfl) rfl, List.forall_mem_cons.mpr ⟨xw_1 _ (List.mem_of_getElem? (i := 181) rfl) rfl, fun _ h => absurd h List.not_mem_nil⟩⟩⟩
theorem inlX1 : ∀ w ∈ wsX10, w ∈ wsL_law := List.forall_mem_cons.mpr ⟨xw_1 _ (List.mem_of_getElem? (i := 116) rfl) rfl, List.forall_mem_cons.mpr ⟨xw_1 _ (List.mem_of_getElem? (i := 118) rfl) rfl, List.forall_mem_cons.mpr ⟨xw_1 _ (List.mem_of_getElem? (i := 120) rfl) rfl, List.forall_mem_cons.mpr ⟨xw_1 _ (List.mem_of_getElem? (i := 122) rfl) rfl, List.forall_mem_cons.mpr ⟨xw_1 _ (List.mem_of_getElem? (i := 124) rfl) rfl, List.forall_mem_cons.mpr ⟨xw_1 _ (List.mem_of_getElem? (i := 126) rfl) rfl, List.forall_mem_cons.mpr ⟨xw_1 _ (List.mem_of_getElem? (i := 128) rfl) rfl, List.forall_mem_cons.mpr ⟨xw_1 _ (List.mem_of_getElem? (i := 130) rfl) rfl, List.forall_mem_cons.mpr ⟨xw_1 _ (List.mem_of_getElem? (i := 132) rfl) rfl, List.forall_mem_cons.mpr ⟨xw_1 _ (List.mem_of_getElem? (i := 134) rfl) rfl, List.forall_mem_cons.mpr ⟨xw_1 _ (List.mem_of_getElem? (i := 136) rfl) rfl, List.forall_mem_cons.mpr ⟨xw_1 _ (List.mem_of_getElem? (i := 138) rfl) rfl, List.forall_mem_cons.mpr ⟨xw_1 _ (List.mem_of_getElem? (i := 140) rfl) rfl, List.forall_mem_cons.mpr ⟨xw_1 _ (List.mem_of_getElem? (i := 142) rfl) rfl, List.forall_mem_cons.mpr ⟨xw_1 _ (List.mem_of_getElem? (i := 144) rfl) rfl, fun _ h => absurd h List.not_mem_nil⟩⟩⟩⟩⟩⟩⟩⟩⟩⟩⟩⟩⟩⟩⟩
theorem inlX2 : ∀ w ∈ wsX20, w ∈ wsL_law := List.forall_mem_cons.mpr ⟨xw_1 _ (List.mem_of_getElem? (i := 193) rfl) rfl, List.forall_mem_cons.mpr ⟨xw_1 _ (List.mem_of_getElem? (i := 195) rfl) rfl, fun _ h => absurd h List.not_mem_nil⟩⟩
theorem inlX3 : ∀ w ∈ wsX30, w ∈ wsL_law := List.forall_mem_cons.mpr ⟨xw_1 _ (List.mem_of_getElem? (i := 72) rfl) rfl, List.forall_mem_cons.mpr ⟨xw_1 _ (List.mem_of_getElem? (i := 74) rfl) rfl, List.forall_mem_cons.mpr ⟨xw_1 _ (List.mem_of_getElem? (i := 76) rfl) rfl, List.forall_mem_cons.mpr ⟨xw_1 _ (List.mem_of_getElem? (i := 78) rfl) rfl, fun _ h => absurd h List.not_mem_nil⟩⟩⟩⟩
theorem inlX4 : ∀ w ∈ wsX40, w ∈ wsL_law := List.forall_mem_cons.mpr ⟨xw_1 _ (List.mem_of_getElem? (i := 34) rfl) rfl, fun _ h => absurd h List.not_mem_nil⟩
theorem inlX5 : ∀ w ∈ wsX50, w ∈ wsL_law := List.forall_mem_cons.mpr ⟨xw_1 _ (List.mem_of_getElem? (i := 50) rfl) rfl, List.forall_mem_cons.mpr ⟨xw_1 _ (List.mem_of_getElem? (i := 52) rfl) rfl, List.forall_mem_cons.mpr ⟨xw_1 _ (List.mem_of_getElem? (i := 54) rfl) rfl, List.forall_mem_cons.mpr ⟨xw_1 _ (List.mem_of_getElem? (i := 56) rfl) rfl, fun _ h => absurd h List.not_mem_nil⟩⟩⟩⟩
theorem inlX6 : ∀ w ∈ wsX60, w ∈ wsL_law := List.forall_mem_cons.mpr ⟨xw_1 _ (List.mem_of_getElem? (i := 155) rfl) rfl, List.forall_mem_cons.mpr ⟨xw_1 _ (List.mem_of_getElem? (i := 157) rfl) rfl, List.forall_mem_cons.mpr ⟨xw_1 _ (List.mem_of_getElem? (i := 159) rfl) rfl, List.forall_mem_cons.mpr ⟨xw_1 _ (List.mem_of_getElem? (i := 161) rfl) rfl, fun _ h => absurd h List.not_mem_nil⟩⟩⟩⟩
theorem inlX7 : ∀ w ∈ wsX70, w ∈ wsL_law := List.forall_mem_cons.mpr ⟨xw_1 _ (List.mem_of_getElem? (i := 224) rfl) rfl, List.forall_mem_cons.mpr ⟨xw_1 _ (List.mem_of_getElem? (i := 226) rfl) rfl, List.forall_mem_cons.mpr ⟨xw_1 _ (List.mem_of_getElem? (i := 228) rfl) rfl, List.forall_mem_cons.mpr ⟨xw_1 _ (List.mem_of_getElem? (i := 230) rfl) rfl, List.forall_mem_cons.mpr ⟨xw_1 _ (List.mem_of_getElem? (i := 232) rfl) rfl, List.forall_mem_cons.mpr ⟨xw_1 _ (List.mem_of_getElem? (i := 234) rfl) rfl, List.forall_mem_cons.mpr ⟨xw_1 _ (List.mem_of_getElem? (i := 236) rfl) rfl, fun _ h => absurd h List.not_mem_nil⟩⟩⟩⟩⟩⟩⟩
theorem inlX8 : ∀ w ∈ wsX80, w ∈ wsL_law := List.forall_mem_cons.mpr ⟨xw_3 _ (List.mem_of_getElem? (i := 99) rfl) rfl, List.forall_mem_cons.mpr ⟨xw_3 _ (List.mem_of_getElem? (i := 101) rfl) rfl, List.forall_mem_cons.mpr ⟨xw_3 _ (List.mem_of_getElem? (i := 103) rfl) rfl, List.forall_mem_cons.mpr ⟨xw_3 _ (List.mem_of_getElem? (i := 105) rfl) rfl, List.forall_mem_cons.mpr ⟨xw_3 _ (List.mem_of_getElem? (i := 107) rfl) rfl, List.forall_mem_cons.mpr ⟨xw_3 _ (List.mem_of_getElem? (i := 109) rfl) rfl, List.forall_mem_cons.mpr ⟨xw_3 _ (List.mem_of_getElem? (i := 111) rfl) rfl, List.forall_mem_cons.mpr ⟨xw_3 _ (List.mem_of_getElem? (i := 113) rfl) rfl, List.forall_mem_cons.mpr ⟨xw_3 _ (List.mem_of_getElem? (i := 115) rfl) rfl, List.forall_mem_cons.mpr ⟨xw_3 _ (List.mem_of_getElem? (i := 117) rfl) rfl, List.forall_mem_cons.mpr ⟨xw_3 _ (List.mem_of_getElem? (i := 119) rfl) rfl, List.forall_mem_cons.mpr ⟨xw_3 _ (List.mem_of_getElem? (i := 121) rfl) rfl, List.forall_mem_cons.mpr ⟨xw_3 _ (List.mem_of_getElem? (i := 123) rfl) rfl, List.forall_mem_cons.mpr ⟨xw_3 _ (List.mem_of_getElem? (i := 125) rfl) rfl, fun _ h => absurd h List.not_mem_nil⟩⟩⟩⟩⟩⟩⟩⟩⟩⟩⟩⟩⟩⟩
end
section
theorem dX0_init_0 : decode cX0_init 0 = .ok (.aload_n 0, 1) := by decide +kernel
theorem dX0_init_1 : decode cX0_init 1 = .ok (.invokespecial 3, 3) := by decide +kernel
theorem dX0_init_4 : decode cX0_init 4 = .ok (.aload_n 0, 1) := by decide +kernel
theorem dX0_init_5 : decode cX0_init 5 = .ok (.bipush 6, 2) := by decide +kernel
theorem dX0_init_7 : decode cX0_init 7 = .ok (.anewarray 9, 3) := by decide +kernel
theorem dX0_init_10 : decode cX0_init 10 = .ok (.putfield 11, 3) := by decide +kernel
theorem dX0_init_13 : decode cX0_init 13 = .ok (.iconst 0, 1) := by decide +kernel
theorem dX0_init_14 : decode cX0_init 14 = .ok (.istore_n 1, 1) := by decide +kernel
theorem dX0_init_15 : decode cX0_init 15 = .ok (.iload_n 1, 1) := by decide +kernel
theorem dX0_init_16 : decode cX0_init 16 = .ok (.bipush 6, 2) := by decide +kernel
theorem dX0_init_18 : decode cX0_init 18 = .ok (.if_icmp .ge 22, 3) := by decide +kernel
theorem dX0_init_21 : decode cX0_init 21 = .ok (.aload_n 0, 1) := by decide +kernel
theorem dX0_init_22 : decode cX0_init 22 = .ok (.getfield 11, 3) := by decide +kernel
theorem dX0_init_25 : decode cX0_init 25 = .ok (.iload_n 1, 1) := by decide +kernel
theorem dX0_init_26 : decode cX0_init 26 = .ok (.new 9, 3) := by decide +kernel
theorem dX0_init_29 : decode cX0_init 29 = .ok (.dup, 1) := by decide +kernel
theorem dX0_init_30 : decode cX0_init 30 = .ok (.invokespecial 17, 3) := by decide +kernel
theorem dX0_init_33 : decode cX0_init 33 = .ok (.aastore, 1) := by decide +kernel
theorem dX0_init_34 : decode cX0_init 34 = .ok (.iinc 1 1, 3) := by decide +kernel
theorem dX0_init_37 : decode cX0_init 37 = .ok (.goto (-22), 3) := by decide +kernel
theorem dX0_init_40 : decode cX0_init 40 = .ok (.return_, 1) := by decide +kernel
theorem dX0_record_0 : decode cX0_record 0 = .ok (.aload_n 0, 1) := by decide +kernel
theorem dX0_record_1 : decode cX0_record 1 = .ok (.getfield 18, 3) := by decide +kernel
theorem dX0_record_4 : decode cX0_record 4 = .ok (.bipush 6, 2) := by decide +kernel
theorem dX0_record_6 : decode cX0_record 6 = .ok (.if_icmp .ne 22, 3) := by decide +kernel
theorem dX0_record_9 : decode cX0_record 9 = .ok (.aload_n 0, 1) := by decide +kernel
theorem dX0_record_10 : decode cX0_record 10 = .ok (.aload_n 0, 1) := by decide +kernel
theorem dX0_record_11 : decode cX0_record 11 = .ok (.iconst 1, 1) := by decide +kernel
theorem dX0_record_12 : decode cX0_record 12 = .ok (.invokevirtual 22, 3) := by decide +kernel
theorem dX0_record_15 : decode cX0_record 15 = .ok (.putfield 26, 3) := by decide +kernel
theorem dX0_record_18 : decode cX0_record 18 = .ok (.aload_n 0, 1) := by decide +kernel
theorem dX0_record_19 : decode cX0_record 19 = .ok (.dup, 1) := by decide +kernel
theorem dX0_record_20 : decode cX0_record 20 = .ok (.getfield 18, 3) := by decide +kernel
theorem dX0_record_23 : decode cX0_record 23 = .ok (.iconst 1, 1) := by decide +kernel
theorem dX0_record_24 : decode cX0_record 24 = .ok (.isub, 1) := by decide +kernel
theorem dX0_record_25 : decode cX0_record 25 = .ok (.putfield 18, 3) := by decide +kernel
theorem dX0_record_28 : decode cX0_record 28 = .ok (.aload_n 0, 1) := by decide +kernel
theorem dX0_record_29 : decode cX0_record 29 = .ok (.getfield 11, 3) := by decide +kernel
theorem dX0_record_32 : decode cX0_record 32 = .ok (.aload_n 0, 1) := by decide +kernel
theorem dX0_record_33 : decode cX0_record 33 = .ok (.aload_n 0, 1) := by decide +kernel
theorem dX0_record_34 : decode cX0_record 34 = .ok (.getfield 18, 3) := by decide +kernel
theorem dX0_record_37 : decode cX0_record 37 = .ok (.invokevirtual 22, 3) := by decide +kernel
theorem dX0_record_40 : decode cX0_record 40 = .ok (.aaload, 1) := by decide +kernel
theorem dX0_record_41 : decode cX0_record 41 = .ok (.astore_n 2, 1) := by decide +kernel
theorem dX0_record_42 : decode cX0_record 42 = .ok (.aload_n 2, 1) := by decide +kernel
theorem dX0_record_43 : decode cX0_record 43 = .ok (.ifnull 18, 3) := by decide +kernel
theorem dX0_record_46 : decode cX0_record 46 = .ok (.aload_n 2, 1) := by decide +kernel
theorem dX0_record_47 : decode cX0_record 47 = .ok (.aload_n 1, 1) := by decide +kernel
theorem dX0_record_48 : decode cX0_record 48 = .ok (.invokevirtual 29, 3) := by decide +kernel
theorem dX0_record_51 : decode cX0_record 51 = .ok (.aload_n 0, 1) := by decide +kernel
theorem dX0_record_52 : decode cX0_record 52 = .ok (.dup, 1) := by decide +kernel
theorem dX0_record_53 : decode cX0_record 53 = .ok (.getfield 18, 3) := by decide +kernel
theorem dX0_record_56 : decode cX0_record 56 = .ok (.iconst 1, 1) := by decide +kernel
theorem dX0_record_57 : decode cX0_record 57 = .ok (.iadd, 1) := by decide +kernel
theorem dX0_record_58 : decode cX0_record 58 = .ok (.putfield 18, 3) := by decide +kernel
theorem dX0_record_61 : decode cX0_record 61 = .ok (.return_, 1) := by decide +kernel
theorem dX0_takeBackInto_0 : decode cX0_takeBackInto 0 = .ok (.aload_n 0, 1) := by decide +kernel
theorem dX0_takeBackInto_1 : decode cX0_takeBackInto 1 = .ok (.getfield 18, 3) := by decide +kernel
theorem dX0_takeBackInto_4 : decode cX0_takeBackInto 4 = .ok (.ifCond .gt 4, 3) := by decide +kernel
theorem dX0_takeBackInto_7 : decode cX0_takeBackInto 7 = .ok (.return_, 1) := by decide +kernel
theorem dX0_takeBackInto_8 : decode cX0_takeBackInto 8 = .ok (.aload_n 0, 1) := by decide +kernel
theorem dX0_takeBackInto_9 : decode cX0_takeBackInto 9 = .ok (.dup, 1) := by decide +kernel
theorem dX0_takeBackInto_10 : decode cX0_takeBackInto 10 = .ok (.getfield 18, 3) := by decide +kernel
theorem dX0_takeBackInto_13 : decode cX0_takeBackInto 13 = .ok (.iconst 1, 1) := by decide +kernel
theorem dX0_takeBackInto_14 : decode cX0_takeBackInto 14 = .ok (.isub, 1) := by decide +kernel
theorem dX0_takeBackInto_15 : decode cX0_takeBackInto 15 = .ok (.putfield 18, 3) := by decide +kernel
theorem dX0_takeBackInto_18 : decode cX0_takeBackInto 18 = .ok (.aload_n 0, 1) := by decide +kernel
theorem dX0_takeBackInto_19 : decode cX0_takeBackInto 19 = .ok (.getfield 11, 3) := by decide +kernel
theorem dX0_takeBackInto_22 : decode cX0_takeBackInto 22 = .ok (.aload_n 0, 1) := by decide +kernel
theorem dX0_takeBackInto_23 : decode cX0_takeBackInto 23 = .ok (.aload_n 0, 1) := by decide +kernel
theorem dX0_takeBackInto_24 : decode cX0_takeBackInto 24 = .ok (.getfield 18, 3) := by decide +kernel
theorem dX0_takeBackInto_27 : decode cX0_takeBackInto 27 = .ok (.invokevirtual 22, 3) := by decide +kernel
theorem dX0_takeBackInto_30 : decode cX0_takeBackInto 30 = .ok (.aaload, 1) := by decide +kernel
theorem dX0_takeBackInto_31 : decode cX0_takeBackInto 31 = .ok (.astore_n 2, 1) := by decide +kernel
theorem dX0_takeBackInto_32 : decode cX0_takeBackInto 32 = .ok (.aload_n 2, 1) := by decide +kernel
theorem dX0_takeBackInto_33 : decode cX0_takeBackInto 33 = .ok (.ifnull 8, 3) := by decide +kernel
theorem dX0_takeBackInto_36 : decode cX0_takeBackInto 36 = .ok (.aload_n 1, 1) := by decide +kernel
theorem dX0_takeBackInto_37 : decode cX0_takeBackInto 37 = .ok (.aload_n 2, 1) := by decide +kernel
theorem dX0_takeBackInto_38 : decode cX0_takeBackInto 38 = .ok (.invokevirtual 29, 3) := by decide +kernel
theorem dX0_takeBackInto_41 : decode cX0_takeBackInto 41 = .ok (.return_, 1) := by decide +kernel
theorem dX0_placeOf_0 : decode cX0_placeOf 0 = .ok (.aload_n 0, 1) := by decide +kernel
theorem dX0_placeOf_1 : decode cX0_placeOf 1 = .ok (.getfield 26, 3) := by decide +kernel
theorem dX0_placeOf_4 : decode cX0_placeOf 4 = .ok (.iload_n 1, 1) := by decide +kernel
theorem dX0_placeOf_5 : decode cX0_placeOf 5 = .ok (.iadd, 1) := by decide +kernel
theorem dX0_placeOf_6 : decode cX0_placeOf 6 = .ok (.bipush 6, 2) := by decide +kernel
theorem dX0_placeOf_8 : decode cX0_placeOf 8 = .ok (.invokestatic 33, 3) := by decide +kernel
theorem dX0_placeOf_11 : decode cX0_placeOf 11 = .ok (.ireturn, 1) := by decide +kernel
theorem dX1_init_0 : decode cX1_init 0 = .ok (.aload_n 0, 1) := by decide +kernel
theorem dX1_init_1 : decode cX1_init 1 = .ok (.invokespecial 3, 3) := by decide +kernel
theorem dX1_init_4 : decode cX1_init 4 = .ok (.return_, 1) := by decide +kernel
theorem dX1_startAnew_0 : decode cX1_startAnew 0 = .ok (.aload_n 0, 1) := by decide +kernel
theorem dX1_startAnew_1 : decode cX1_startAnew 1 = .ok (.iconst 0, 1) := by decide +kernel
theorem dX1_startAnew_2 : decode cX1_startAnew 2 = .ok (.putfield 9, 3) := by decide +kernel
theorem dX1_startAnew_5 : decode cX1_startAnew 5 = .ok (.aload_n 0, 1) := by decide +kernel
theorem dX1_startAnew_6 : decode cX1_startAnew 6 = .ok (.iconst 0, 1) := by decide +kernel
theorem dX1_startAnew_7 : decode cX1_startAnew 7 = .ok (.putfield 15, 3) := by decide +kernel
theorem dX1_startAnew_10 : decode cX1_startAnew 10 = .ok (.aload_n 0, 1) := by decide +kernel
theorem dX1_startAnew_11 : decode cX1_startAnew 11 = .ok (.iconst 0, 1) := by decide +kernel
theorem dX1_startAnew_12 : decode cX1_startAnew 12 = .ok (.putfield 18, 3) := by decide +kernel
theorem dX1_startAnew_15 : decode cX1_startAnew 15 = .ok (.aload_n 0, 1) := by decide +kernel
theorem dX1_startAnew_16 : decode cX1_startAnew 16 = .ok (.iconst 0, 1) := by decide +kernel
theorem dX1_startAnew_17 : decode cX1_startAnew 17 = .ok (.putfield 21, 3) := by decide +kernel
theorem dX1_startAnew_20 : decode cX1_startAnew 20 = .ok (.aload_n 0, 1) := by decide +kernel
theorem dX1_startAnew_21 : decode cX1_startAnew 21 = .ok (.iconst 0, 1) := by decide +kernel
theorem dX1_startAnew_22 : decode cX1_startAnew 22 = .ok (.putfield 24, 3) := by decide +kernel
theorem dX1_startAnew_25 : decode cX1_startAnew 25 = .ok (.aload_n 0, 1) := by decide +kernel
theorem dX1_startAnew_26 : decode cX1_startAnew 26 = .ok (.iconst 0, 1) := by decide +kernel
theorem dX1_startAnew_27 : decode cX1_startAnew 27 = .ok (.putfield 27, 3) := by decide +kernel
theorem dX1_startAnew_30 : decode cX1_startAnew 30 = .ok (.aload_n 0, 1) := by decide +kernel
theorem dX1_startAnew_31 : decode cX1_startAnew 31 = .ok (.iconst 0, 1) := by decide +kernel
theorem dX1_startAnew_32 : decode cX1_startAnew 32 = .ok (.putfield 30, 3) := by decide +kernel
theorem dX1_startAnew_35 : decode cX1_startAnew 35 = .ok (.aload_n 0, 1) := by decide +kernel
theorem dX1_startAnew_36 : decode cX1_startAnew 36 = .ok (.iconst 0, 1) := by decide +kernel
theorem dX1_startAnew_37 : decode cX1_startAnew 37 = .ok (.putfield 33, 3) := by decide +kernel
theorem dX1_startAnew_40 : decode cX1_startAnew 40 = .ok (.aload_n 0, 1) := by decide +kernel
theorem dX1_startAnew_41 : decode cX1_startAnew 41 = .ok (.iload_n 1, 1) := by decide +kernel
theorem dX1_startAnew_42 : decode cX1_startAnew 42 = .ok (.putfield 36, 3) := by decide +kernel
theorem dX1_startAnew_45 : decode cX1_startAnew 45 = .ok (.aload_n 0, 1) := by decide +kernel
theorem dX1_startAnew_46 : decode cX1_startAnew 46 = .ok (.iconst 0, 1) := by decide +kernel
theorem dX1_startAnew_47 : decode cX1_startAnew 47 = .ok (.putfield 39, 3) := by decide +kernel
theorem dX1_startAnew_50 : decode cX1_startAnew 50 = .ok (.aload_n 0, 1) := by decide +kernel
theorem dX1_startAnew_51 : decode cX1_startAnew 51 = .ok (.iconst 0, 1) := by decide +kernel
theorem dX1_startAnew_52 : decode cX1_startAnew 52 = .ok (.putfield 42, 3) := by decide +kernel
theorem dX1_startAnew_55 : decode cX1_startAnew 55 = .ok (.aload_n 0, 1) := by decide +kernel
theorem dX1_startAnew_56 : decode cX1_startAnew 56 = .ok (.iconst 0, 1) := by decide +kernel
theorem dX1_startAnew_57 : decode cX1_startAnew 57 = .ok (.putfield 45, 3) := by decide +kernel
theorem dX1_startAnew_60 : decode cX1_startAnew 60 = .ok (.aload_n 0, 1) := by decide +kernel
theorem dX1_startAnew_61 : decode cX1_startAnew 61 = .ok (.iconst 0, 1) := by decide +kernel
theorem dX1_startAnew_62 : decode cX1_startAnew 62 = .ok (.putfield 48, 3) := by decide +kernel
theorem dX1_startAnew_65 : decode cX1_startAnew 65 = .ok (.aload_n 0, 1) := by decide +kernel
theorem dX1_startAnew_66 : decode cX1_startAnew 66 = .ok (.iconst 0, 1) := by decide +kernel
theorem dX1_startAnew_67 : decode cX1_startAnew 67 = .ok (.putfield 51, 3) := by decide +kernel
theorem dX1_startAnew_70 : decode cX1_startAnew 70 = .ok (.aload_n 0, 1) := by decide +kernel
theorem dX1_startAnew_71 : decode cX1_startAnew 71 = .ok (.iconst 0, 1) := by decide +kernel
theorem dX1_startAnew_72 : decode cX1_startAnew 72 = .ok (.putfield 54, 3) := by decide +kernel
theorem dX1_startAnew_75 : decode cX1_startAnew 75 = .ok (.return_, 1) := by decide +kernel
theorem dX1_isAtEndOf_0 : decode cX1_isAtEndOf 0 = .ok (.aload_n 1, 1) := by decide +kernel
theorem dX1_isAtEndOf_1 : decode cX1_isAtEndOf 1 = .ok (.getfield 57, 3) := by decide +kernel
theorem dX1_isAtEndOf_4 : decode cX1_isAtEndOf 4 = .ok (.ifCond .le 18, 3) := by decide +kernel
theorem dX1_isAtEndOf_7 : decode cX1_isAtEndOf 7 = .ok (.aload_n 0, 1) := by decide +kernel
theorem dX1_isAtEndOf_8 : decode cX1_isAtEndOf 8 = .ok (.getfield 27, 3) := by decide +kernel
theorem dX1_isAtEndOf_11 : decode cX1_isAtEndOf 11 = .ok (.aload_n 1, 1) := by decide +kernel
theorem dX1_isAtEndOf_12 : decode cX1_isAtEndOf 12 = .ok (.getfield 57, 3) := by decide +kernel
theorem dX1_isAtEndOf_15 : decode cX1_isAtEndOf 15 = .ok (.if_icmp .lt 7, 3) := by decide +kernel
theorem dX1_isAtEndOf_18 : decode cX1_isAtEndOf 18 = .ok (.iconst 1, 1) := by decide +kernel
theorem dX1_isAtEndOf_19 : decode cX1_isAtEndOf 19 = .ok (.goto 4, 3) := by decide +kernel
theorem dX1_isAtEndOf_22 : decode cX1_isAtEndOf 22 = .ok (.iconst 0, 1) := by decide +kernel
theorem dX1_isAtEndOf_23 : decode cX1_isAtEndOf 23 = .ok (.ireturn, 1) := by decide +kernel
theorem dX1_goUntilWalked_0 : decode cX1_goUntilWalked 0 = .ok (.iconst 0, 1) := by decide +kernel
theorem dX1_goUntilWalked_1 : decode cX1_goUntilWalked 1 = .ok (.istore 5, 2) := by decide +kernel
theorem dX1_goUntilWalked_3 : decode cX1_goUntilWalked 3 = .ok (.iload 5, 2) := by decide +kernel
theorem dX1_goUntilWalked_5 : decode cX1_goUntilWalked 5 = .ok (.iload 4, 2) := by decide +kernel
theorem dX1_goUntilWalked_7 : decode cX1_goUntilWalked 7 = .ok (.if_icmp .ge 24, 3) := by decide +kernel
theorem dX1_goUntilWalked_10 : decode cX1_goUntilWalked 10 = .ok (.aload_n 0, 1) := by decide +kernel
theorem dX1_goUntilWalked_11 : decode cX1_goUntilWalked 11 = .ok (.aload_n 2, 1) := by decide +kernel
theorem dX1_goUntilWalked_12 : decode cX1_goUntilWalked 12 = .ok (.invokevirtual 62, 3) := by decide +kernel
theorem dX1_goUntilWalked_15 : decode cX1_goUntilWalked 15 = .ok (.ifCond .ne 16, 3) := by decide +kernel
theorem dX1_goUntilWalked_18 : decode cX1_goUntilWalked 18 = .ok (.aload_n 0, 1) := by decide +kernel
theorem dX1_goUntilWalked_19 : decode cX1_goUntilWalked 19 = .ok (.aload_n 1, 1) := by decide +kernel
theorem dX1_goUntilWalked_20 : decode cX1_goUntilWalked 20 = .ok (.aload_n 2, 1) := by decide +kernel
theorem dX1_goUntilWalked_21 : decode cX1_goUntilWalked 21 = .ok (.aload_n 3, 1) := by decide +kernel
theorem dX1_goUntilWalked_22 : decode cX1_goUntilWalked 22 = .ok (.invokevirtual 66, 3) := by decide +kernel
theorem dX1_goUntilWalked_25 : decode cX1_goUntilWalked 25 = .ok (.iinc 5 1, 3) := by decide +kernel
theorem dX1_goUntilWalked_28 : decode cX1_goUntilWalked 28 = .ok (.goto (-25), 3) := by decide +kernel
theorem dX1_goUntilWalked_31 : decode cX1_goUntilWalked 31 = .ok (.return_, 1) := by decide +kernel
theorem dX1_goOn_0 : decode cX1_goOn 0 = .ok (.iconst 0, 1) := by decide +kernel
theorem dX1_goOn_1 : decode cX1_goOn 1 = .ok (.aload_n 2, 1) := by decide +kernel
theorem dX1_goOn_2 : decode cX1_goOn 2 = .ok (.aload_n 0, 1) := by decide +kernel
theorem dX1_goOn_3 : decode cX1_goOn 3 = .ok (.getfield 27, 3) := by decide +kernel
theorem dX1_goOn_6 : decode cX1_goOn 6 = .ok (.invokevirtual 70, 3) := by decide +kernel
theorem dX1_goOn_9 : decode cX1_goOn 9 = .ok (.invokestatic 74, 3) := by decide +kernel
theorem dX1_goOn_12 : decode cX1_goOn 12 = .ok (.istore 4, 2) := by decide +kernel
theorem dX1_goOn_14 : decode cX1_goOn 14 = .ok (.iconst 1, 1) := by decide +kernel
theorem dX1_goOn_15 : decode cX1_goOn 15 = .ok (.iload 4, 2) := by decide +kernel
theorem dX1_goOn_17 : decode cX1_goOn 17 = .ok (.iadd, 1) := by decide +kernel
theorem dX1_goOn_18 : decode cX1_goOn 18 = .ok (.istore 5, 2) := by decide +kernel
theorem dX1_goOn_20 : decode cX1_goOn 20 = .ok (.aload_n 0, 1) := by decide +kernel
theorem dX1_goOn_21 : decode cX1_goOn 21 = .ok (.getfield 39, 3) := by decide +kernel
theorem dX1_goOn_24 : decode cX1_goOn 24 = .ok (.ifCond .ne 31, 3) := by decide +kernel
theorem dX1_goOn_27 : decode cX1_goOn 27 = .ok (.aload_n 0, 1) := by decide +kernel
theorem dX1_goOn_28 : decode cX1_goOn 28 = .ok (.getfield 36, 3) := by decide +kernel
theorem dX1_goOn_31 : decode cX1_goOn 31 = .ok (.iload 5, 2) := by decide +kernel
theorem dX1_goOn_33 : decode cX1_goOn 33 = .ok (.if_icmp .ge 22, 3) := by decide +kernel
theorem dX1_goOn_36 : decode cX1_goOn 36 = .ok (.aload_n 0, 1) := by decide +kernel
theorem dX1_goOn_37 : decode cX1_goOn 37 = .ok (.dup, 1) := by decide +kernel
theorem dX1_goOn_38 : decode cX1_goOn 38 = .ok (.getfield 48, 3) := by decide +kernel
theorem dX1_goOn_41 : decode cX1_goOn 41 = .ok (.iconst 1, 1) := by decide +kernel
theorem dX1_goOn_42 : decode cX1_goOn 42 = .ok (.iadd, 1) := by decide +kernel
theorem dX1_goOn_43 : decode cX1_goOn 43 = .ok (.putfield 48, 3) := by decide +kernel
theorem dX1_goOn_46 : decode cX1_goOn 46 = .ok (.aload_n 0, 1) := by decide +kernel
theorem dX1_goOn_47 : decode cX1_goOn 47 = .ok (.aload_n 3, 1) := by decide +kernel
theorem dX1_goOn_48 : decode cX1_goOn 48 = .ok (.iconst 2, 1) := by decide +kernel
theorem dX1_goOn_49 : decode cX1_goOn 49 = .ok (.invokevirtual 80, 3) := by decide +kernel
theorem dX1_goOn_52 : decode cX1_goOn 52 = .ok (.putfield 39, 3) := by decide +kernel
theorem dX1_goOn_55 : decode cX1_goOn 55 = .ok (.aload_n 0, 1) := by decide +kernel
theorem dX1_goOn_56 : decode cX1_goOn 56 = .ok (.dup, 1) := by decide +kernel
theorem dX1_goOn_57 : decode cX1_goOn 57 = .ok (.getfield 9, 3) := by decide +kernel
theorem dX1_goOn_60 : decode cX1_goOn 60 = .ok (.iconst 1, 1) := by decide +kernel
theorem dX1_goOn_61 : decode cX1_goOn 61 = .ok (.iadd, 1) := by decide +kernel
theorem dX1_goOn_62 : decode cX1_goOn 62 = .ok (.putfield 9, 3) := by decide +kernel
theorem dX1_goOn_65 : decode cX1_goOn 65 = .ok (.aload_n 0, 1) := by decide +kernel
theorem dX1_goOn_66 : decode cX1_goOn 66 = .ok (.dup, 1) := by decide +kernel
theorem dX1_goOn_67 : decode cX1_goOn 67 = .ok (.getfield 15, 3) := by decide +kernel
theorem dX1_goOn_70 : decode cX1_goOn 70 = .ok (.aload_n 3, 1) := by decide +kernel
theorem dX1_goOn_71 : decode cX1_goOn 71 = .ok (.iconst 0, 1) := by decide +kernel
theorem dX1_goOn_72 : decode cX1_goOn 72 = .ok (.invokevirtual 80, 3) := by decide +kernel
theorem dX1_goOn_75 : decode cX1_goOn 75 = .ok (.iadd, 1) := by decide +kernel
theorem dX1_goOn_76 : decode cX1_goOn 76 = .ok (.putfield 15, 3) := by decide +kernel
theorem dX1_goOn_79 : decode cX1_goOn 79 = .ok (.aload_n 0, 1) := by decide +kernel
theorem dX1_goOn_80 : decode cX1_goOn 80 = .ok (.getfield 39, 3) := by decide +kernel
theorem dX1_goOn_83 : decode cX1_goOn 83 = .ok (.ifCond .le 36, 3) := by decide +kernel
theorem dX1_goOn_86 : decode cX1_goOn 86 = .ok (.aload_n 0, 1) := by decide +kernel
theorem dX1_goOn_87 : decode cX1_goOn 87 = .ok (.dup, 1) := by decide +kernel
theorem dX1_goOn_88 : decode cX1_goOn 88 = .ok (.getfield 39, 3) := by decide +kernel
theorem dX1_goOn_91 : decode cX1_goOn 91 = .ok (.iconst 1, 1) := by decide +kernel
theorem dX1_goOn_92 : decode cX1_goOn 92 = .ok (.isub, 1) := by decide +kernel
theorem dX1_goOn_93 : decode cX1_goOn 93 = .ok (.putfield 39, 3) := by decide +kernel
theorem dX1_goOn_96 : decode cX1_goOn 96 = .ok (.aload_n 0, 1) := by decide +kernel
theorem dX1_goOn_97 : decode cX1_goOn 97 = .ok (.aload_n 3, 1) := by decide +kernel
theorem dX1_goOn_98 : decode cX1_goOn 98 = .ok (.iconst 4, 1) := by decide +kernel
theorem dX1_goOn_99 : decode cX1_goOn 99 = .ok (.invokevirtual 80, 3) := by decide +kernel
theorem dX1_goOn_102 : decode cX1_goOn 102 = .ok (.aload_n 0, 1) := by decide +kernel
theorem dX1_goOn_103 : decode cX1_goOn 103 = .ok (.getfield 36, 3) := by decide +kernel
theorem dX1_goOn_106 : decode cX1_goOn 106 = .ok (.aload_n 3, 1) := by decide +kernel
theorem dX1_goOn_107 : decode cX1_goOn 107 = .ok (.iconst 3, 1) := by decide +kernel
theorem dX1_goOn_108 : decode cX1_goOn 108 = .ok (.invokevirtual 80, 3) := by decide +kernel
theorem dX1_goOn_111 : decode cX1_goOn 111 = .ok (.iadd, 1) := by decide +kernel
theorem dX1_goOn_112 : decode cX1_goOn 112 = .ok (.invokestatic 85, 3) := by decide +kernel
theorem dX1_goOn_115 : decode cX1_goOn 115 = .ok (.putfield 36, 3) := by decide +kernel
theorem dX1_goOn_118 : decode cX1_goOn 118 = .ok (.return_, 1) := by decide +kernel
theorem dX1_goOn_119 : decode cX1_goOn 119 = .ok (.aload_n 0, 1) := by decide +kernel
theorem dX1_goOn_120 : decode cX1_goOn 120 = .ok (.dup, 1) := by decide +kernel
theorem dX1_goOn_121 : decode cX1_goOn 121 = .ok (.getfield 15, 3) := by decide +kernel
theorem dX1_goOn_124 : decode cX1_goOn 124 = .ok (.iload 4, 2) := by decide +kernel
theorem dX1_goOn_126 : decode cX1_goOn 126 = .ok (.iadd, 1) := by decide +kernel
theorem dX1_goOn_127 : decode cX1_goOn 127 = .ok (.putfield 15, 3) := by decide +kernel
theorem dX1_goOn_130 : decode cX1_goOn 130 = .ok (.aload_n 0, 1) := by decide +kernel
theorem dX1_goOn_131 : decode cX1_goOn 131 = .ok (.dup, 1) := by decide +kernel
theorem dX1_goOn_132 : decode cX1_goOn 132 = .ok (.getfield 36, 3) := by decide +kernel
theorem dX1_goOn_135 : decode cX1_goOn 135 = .ok (.iload 5, 2) := by decide +kernel
theorem dX1_goOn_137 : decode cX1_goOn 137 = .ok (.isub, 1) := by decide +kernel
theorem dX1_goOn_138 : decode cX1_goOn 138 = .ok (.putfield 36, 3) := by decide +kernel
theorem dX1_goOn_141 : decode cX1_goOn 141 = .ok (.aload_n 0, 1) := by decide +kernel
theorem dX1_goOn_142 : decode cX1_goOn 142 = .ok (.dup, 1) := by decide +kernel
theorem dX1_goOn_143 : decode cX1_goOn 143 = .ok (.getfield 54, 3) := by decide +kernel
theorem dX1_goOn_146 : decode cX1_goOn 146 = .ok (.iconst 1, 1) := by decide +kernel
theorem dX1_goOn_147 : decode cX1_goOn 147 = .ok (.iadd, 1) := by decide +kernel
theorem dX1_goOn_148 : decode cX1_goOn 148 = .ok (.putfield 54, 3) := by decide +kernel
theorem dX1_goOn_151 : decode cX1_goOn 151 = .ok (.aload_n 0, 1) := by decide +kernel
theorem dX1_goOn_152 : decode cX1_goOn 152 = .ok (.aload_n 2, 1) := by decide +kernel
theorem dX1_goOn_153 : decode cX1_goOn 153 = .ok (.aload_n 3, 1) := by decide +kernel
theorem dX1_goOn_154 : decode cX1_goOn 154 = .ok (.iconst 5, 1) := by decide +kernel
theorem dX1_goOn_155 : decode cX1_goOn 155 = .ok (.invokevirtual 80, 3) := by decide +kernel
theorem dX1_goOn_158 : decode cX1_goOn 158 = .ok (.invokevirtual 88, 3) := by decide +kernel
theorem dX1_goOn_161 : decode cX1_goOn 161 = .ok (.aload_n 0, 1) := by decide +kernel
theorem dX1_goOn_162 : decode cX1_goOn 162 = .ok (.aload_n 1, 1) := by decide +kernel
theorem dX1_goOn_163 : decode cX1_goOn 163 = .ok (.aload_n 3, 1) := by decide +kernel
theorem dX1_goOn_164 : decode cX1_goOn 164 = .ok (.iconst 1, 1) := by decide +kernel
theorem dX1_goOn_165 : decode cX1_goOn 165 = .ok (.invokevirtual 80, 3) := by decide +kernel
theorem dX1_goOn_168 : decode cX1_goOn 168 = .ok (.invokevirtual 92, 3) := by decide +kernel
theorem dX1_goOn_171 : decode cX1_goOn 171 = .ok (.return_, 1) := by decide +kernel
theorem dX1_stepOn_0 : decode cX1_stepOn 0 = .ok (.aload_n 0, 1) := by decide +kernel
theorem dX1_stepOn_1 : decode cX1_stepOn 1 = .ok (.dup, 1) := by decide +kernel
theorem dX1_stepOn_2 : decode cX1_stepOn 2 = .ok (.getfield 33, 3) := by decide +kernel
theorem dX1_stepOn_5 : decode cX1_stepOn 5 = .ok (.iconst 1, 1) := by decide +kernel
theorem dX1_stepOn_6 : decode cX1_stepOn 6 = .ok (.iadd, 1) := by decide +kernel
theorem dX1_stepOn_7 : decode cX1_stepOn 7 = .ok (.putfield 33, 3) := by decide +kernel
theorem dX1_stepOn_10 : decode cX1_stepOn 10 = .ok (.aload_n 1, 1) := by decide +kernel
theorem dX1_stepOn_11 : decode cX1_stepOn 11 = .ok (.aload_n 0, 1) := by decide +kernel
theorem dX1_stepOn_12 : decode cX1_stepOn 12 = .ok (.getfield 27, 3) := by decide +kernel
theorem dX1_stepOn_15 : decode cX1_stepOn 15 = .ok (.invokevirtual 96, 3) := by decide +kernel
theorem dX1_stepOn_18 : decode cX1_stepOn 18 = .ok (.ifCond .eq 27, 3) := by decide +kernel
theorem dX1_stepOn_21 : decode cX1_stepOn 21 = .ok (.iload_n 2, 1) := by decide +kernel
theorem dX1_stepOn_22 : decode cX1_stepOn 22 = .ok (.ifCond .le 23, 3) := by decide +kernel
theorem dX1_stepOn_25 : decode cX1_stepOn 25 = .ok (.aload_n 0, 1) := by decide +kernel
theorem dX1_stepOn_26 : decode cX1_stepOn 26 = .ok (.getfield 33, 3) := by decide +kernel
theorem dX1_stepOn_29 : decode cX1_stepOn 29 = .ok (.iload_n 2, 1) := by decide +kernel
theorem dX1_stepOn_30 : decode cX1_stepOn 30 = .ok (.irem, 1) := by decide +kernel
theorem dX1_stepOn_31 : decode cX1_stepOn 31 = .ok (.ifCond .ne 14, 3) := by decide +kernel
theorem dX1_stepOn_34 : decode cX1_stepOn 34 = .ok (.aload_n 0, 1) := by decide +kernel
theorem dX1_stepOn_35 : decode cX1_stepOn 35 = .ok (.dup, 1) := by decide +kernel
theorem dX1_stepOn_36 : decode cX1_stepOn 36 = .ok (.getfield 45, 3) := by decide +kernel
theorem dX1_stepOn_39 : decode cX1_stepOn 39 = .ok (.iconst 1, 1) := by decide +kernel
theorem dX1_stepOn_40 : decode cX1_stepOn 40 = .ok (.iadd, 1) := by decide +kernel
theorem dX1_stepOn_41 : decode cX1_stepOn 41 = .ok (.putfield 45, 3) := by decide +kernel
theorem dX1_stepOn_44 : decode cX1_stepOn 44 = .ok (.return_, 1) := by decide +kernel
theorem dX1_stepOn_45 : decode cX1_stepOn 45 = .ok (.aload_n 0, 1) := by decide +kernel
theorem dX1_stepOn_46 : decode cX1_stepOn 46 = .ok (.dup, 1) := by decide +kernel
theorem dX1_stepOn_47 : decode cX1_stepOn 47 = .ok (.getfield 30, 3) := by decide +kernel
theorem dX1_stepOn_50 : decode cX1_stepOn 50 = .ok (.iconst 1, 1) := by decide +kernel
theorem dX1_stepOn_51 : decode cX1_stepOn 51 = .ok (.iadd, 1) := by decide +kernel
theorem dX1_stepOn_52 : decode cX1_stepOn 52 = .ok (.putfield 30, 3) := by decide +kernel
theorem dX1_stepOn_55 : decode cX1_stepOn 55 = .ok (.aload_n 0, 1) := by decide +kernel
theorem dX1_stepOn_56 : decode cX1_stepOn 56 = .ok (.dup, 1) := by decide +kernel
theorem dX1_stepOn_57 : decode cX1_stepOn 57 = .ok (.getfield 42, 3) := by decide +kernel
theorem dX1_stepOn_60 : decode cX1_stepOn 60 = .ok (.iconst 1, 1) := by decide +kernel
theorem dX1_stepOn_61 : decode cX1_stepOn 61 = .ok (.iadd, 1) := by decide +kernel
theorem dX1_stepOn_62 : decode cX1_stepOn 62 = .ok (.putfield 42, 3) := by decide +kernel
theorem dX1_stepOn_65 : decode cX1_stepOn 65 = .ok (.aload_n 0, 1) := by decide +kernel
theorem dX1_stepOn_66 : decode cX1_stepOn 66 = .ok (.getfield 30, 3) := by decide +kernel
theorem dX1_stepOn_69 : decode cX1_stepOn 69 = .ok (.aload_n 1, 1) := by decide +kernel
theorem dX1_stepOn_70 : decode cX1_stepOn 70 = .ok (.aload_n 0, 1) := by decide +kernel
theorem dX1_stepOn_71 : decode cX1_stepOn 71 = .ok (.getfield 27, 3) := by decide +kernel
theorem dX1_stepOn_74 : decode cX1_stepOn 74 = .ok (.invokevirtual 100, 3) := by decide +kernel
theorem dX1_stepOn_77 : decode cX1_stepOn 77 = .ok (.if_icmp .lt 23, 3) := by decide +kernel
theorem dX1_stepOn_80 : decode cX1_stepOn 80 = .ok (.aload_n 0, 1) := by decide +kernel
theorem dX1_stepOn_81 : decode cX1_stepOn 81 = .ok (.dup, 1) := by decide +kernel
theorem dX1_stepOn_82 : decode cX1_stepOn 82 = .ok (.getfield 27, 3) := by decide +kernel
theorem dX1_stepOn_85 : decode cX1_stepOn 85 = .ok (.iconst 1, 1) := by decide +kernel
theorem dX1_stepOn_86 : decode cX1_stepOn 86 = .ok (.iadd, 1) := by decide +kernel
theorem dX1_stepOn_87 : decode cX1_stepOn 87 = .ok (.putfield 27, 3) := by decide +kernel
theorem dX1_stepOn_90 : decode cX1_stepOn 90 = .ok (.aload_n 0, 1) := by decide +kernel
theorem dX1_stepOn_91 : decode cX1_stepOn 91 = .ok (.iconst 0, 1) := by decide +kernel
theorem dX1_stepOn_92 : decode cX1_stepOn 92 = .ok (.putfield 30, 3) := by decide +kernel
theorem dX1_stepOn_95 : decode cX1_stepOn 95 = .ok (.aload_n 0, 1) := by decide +kernel
theorem dX1_stepOn_96 : decode cX1_stepOn 96 = .ok (.iconst 0, 1) := by decide +kernel
theorem dX1_stepOn_97 : decode cX1_stepOn 97 = .ok (.putfield 33, 3) := by decide +kernel
theorem dX1_stepOn_100 : decode cX1_stepOn 100 = .ok (.return_, 1) := by decide +kernel
theorem dX1_singOn_0 : decode cX1_singOn 0 = .ok (.aload_n 0, 1) := by decide +kernel
theorem dX1_singOn_1 : decode cX1_singOn 1 = .ok (.dup, 1) := by decide +kernel
theorem dX1_singOn_2 : decode cX1_singOn 2 = .ok (.getfield 24, 3) := by decide +kernel
theorem dX1_singOn_5 : decode cX1_singOn 5 = .ok (.iconst 1, 1) := by decide +kernel
theorem dX1_singOn_6 : decode cX1_singOn 6 = .ok (.iadd, 1) := by decide +kernel
theorem dX1_singOn_7 : decode cX1_singOn 7 = .ok (.putfield 24, 3) := by decide +kernel
theorem dX1_singOn_10 : decode cX1_singOn 10 = .ok (.aload_n 0, 1) := by decide +kernel
theorem dX1_singOn_11 : decode cX1_singOn 11 = .ok (.getfield 24, 3) := by decide +kernel
theorem dX1_singOn_14 : decode cX1_singOn 14 = .ok (.aload_n 1, 1) := by decide +kernel
theorem dX1_singOn_15 : decode cX1_singOn 15 = .ok (.aload_n 0, 1) := by decide +kernel
theorem dX1_singOn_16 : decode cX1_singOn 16 = .ok (.getfield 18, 3) := by decide +kernel
theorem dX1_singOn_19 : decode cX1_singOn 19 = .ok (.aload_n 0, 1) := by decide +kernel
theorem dX1_singOn_20 : decode cX1_singOn 20 = .ok (.getfield 21, 3) := by decide +kernel
theorem dX1_singOn_23 : decode cX1_singOn 23 = .ok (.invokevirtual 103, 3) := by decide +kernel
theorem dX1_singOn_26 : decode cX1_singOn 26 = .ok (.if_icmp .ge 4, 3) := by decide +kernel
theorem dX1_singOn_29 : decode cX1_singOn 29 = .ok (.return_, 1) := by decide +kernel
theorem dX1_singOn_30 : decode cX1_singOn 30 = .ok (.aload_n 1, 1) := by decide +kernel
theorem dX1_singOn_31 : decode cX1_singOn 31 = .ok (.aload_n 0, 1) := by decide +kernel
theorem dX1_singOn_32 : decode cX1_singOn 32 = .ok (.getfield 18, 3) := by decide +kernel
theorem dX1_singOn_35 : decode cX1_singOn 35 = .ok (.aload_n 0, 1) := by decide +kernel
theorem dX1_singOn_36 : decode cX1_singOn 36 = .ok (.getfield 21, 3) := by decide +kernel
theorem dX1_singOn_39 : decode cX1_singOn 39 = .ok (.invokevirtual 108, 3) := by decide +kernel
theorem dX1_singOn_42 : decode cX1_singOn 42 = .ok (.ifCond .eq 8, 3) := by decide +kernel
theorem dX1_singOn_45 : decode cX1_singOn 45 = .ok (.aload_n 0, 1) := by decide +kernel
theorem dX1_singOn_46 : decode cX1_singOn 46 = .ok (.iload_n 2, 1) := by decide +kernel
theorem dX1_singOn_47 : decode cX1_singOn 47 = .ok (.putfield 39, 3) := by decide +kernel
theorem dX1_singOn_50 : decode cX1_singOn 50 = .ok (.aload_n 0, 1) := by decide +kernel
theorem dX1_singOn_51 : decode cX1_singOn 51 = .ok (.iconst 0, 1) := by decide +kernel
theorem dX1_singOn_52 : decode cX1_singOn 52 = .ok (.putfield 24, 3) := by decide +kernel
theorem dX1_singOn_55 : decode cX1_singOn 55 = .ok (.aload_n 0, 1) := by decide +kernel
theorem dX1_singOn_56 : decode cX1_singOn 56 = .ok (.dup, 1) := by decide +kernel
theorem dX1_singOn_57 : decode cX1_singOn 57 = .ok (.getfield 21, 3) := by decide +kernel
theorem dX1_singOn_60 : decode cX1_singOn 60 = .ok (.iconst 1, 1) := by decide +kernel
theorem dX1_singOn_61 : decode cX1_singOn 61 = .ok (.iadd, 1) := by decide +kernel
theorem dX1_singOn_62 : decode cX1_singOn 62 = .ok (.putfield 21, 3) := by decide +kernel
theorem dX1_singOn_65 : decode cX1_singOn 65 = .ok (.aload_n 0, 1) := by decide +kernel
theorem dX1_singOn_66 : decode cX1_singOn 66 = .ok (.getfield 21, 3) := by decide +kernel
theorem dX1_singOn_69 : decode cX1_singOn 69 = .ok (.aload_n 1, 1) := by decide +kernel
theorem dX1_singOn_70 : decode cX1_singOn 70 = .ok (.aload_n 0, 1) := by decide +kernel
theorem dX1_singOn_71 : decode cX1_singOn 71 = .ok (.getfield 18, 3) := by decide +kernel
theorem dX1_singOn_74 : decode cX1_singOn 74 = .ok (.invokevirtual 112, 3) := by decide +kernel
theorem dX1_singOn_77 : decode cX1_singOn 77 = .ok (.if_icmp .ge 4, 3) := by decide +kernel
theorem dX1_singOn_80 : decode cX1_singOn 80 = .ok (.return_, 1) := by decide +kernel
theorem dX1_singOn_81 : decode cX1_singOn 81 = .ok (.aload_n 0, 1) := by decide +kernel
theorem dX1_singOn_82 : decode cX1_singOn 82 = .ok (.iconst 0, 1) := by decide +kernel
theorem dX1_singOn_83 : decode cX1_singOn 83 = .ok (.putfield 21, 3) := by decide +kernel
theorem dX1_singOn_86 : decode cX1_singOn 86 = .ok (.aload_n 0, 1) := by decide +kernel
theorem dX1_singOn_87 : decode cX1_singOn 87 = .ok (.dup, 1) := by decide +kernel
theorem dX1_singOn_88 : decode cX1_singOn 88 = .ok (.getfield 18, 3) := by decide +kernel
theorem dX1_singOn_91 : decode cX1_singOn 91 = .ok (.iconst 1, 1) := by decide +kernel
theorem dX1_singOn_92 : decode cX1_singOn 92 = .ok (.iadd, 1) := by decide +kernel
theorem dX1_singOn_93 : decode cX1_singOn 93 = .ok (.putfield 18, 3) := by decide +kernel
theorem dX1_singOn_96 : decode cX1_singOn 96 = .ok (.aload_n 0, 1) := by decide +kernel
theorem dX1_singOn_97 : decode cX1_singOn 97 = .ok (.getfield 18, 3) := by decide +kernel
theorem dX1_singOn_100 : decode cX1_singOn 100 = .ok (.aload_n 1, 1) := by decide +kernel
theorem dX1_singOn_101 : decode cX1_singOn 101 = .ok (.getfield 115, 3) := by decide +kernel
theorem dX1_singOn_104 : decode cX1_singOn 104 = .ok (.if_icmp .ge 4, 3) := by decide +kernel
theorem dX1_singOn_107 : decode cX1_singOn 107 = .ok (.return_, 1) := by decide +kernel
theorem dX1_singOn_108 : decode cX1_singOn 108 = .ok (.aload_n 0, 1) := by decide +kernel
theorem dX1_singOn_109 : decode cX1_singOn 109 = .ok (.iconst 0, 1) := by decide +kernel
theorem dX1_singOn_110 : decode cX1_singOn 110 = .ok (.putfield 18, 3) := by decide +kernel
theorem dX1_singOn_113 : decode cX1_singOn 113 = .ok (.aload_n 0, 1) := by decide +kernel
theorem dX1_singOn_114 : decode cX1_singOn 114 = .ok (.dup, 1) := by decide +kernel
theorem dX1_singOn_115 : decode cX1_singOn 115 = .ok (.getfield 51, 3) := by decide +kernel
theorem dX1_singOn_118 : decode cX1_singOn 118 = .ok (.iconst 1, 1) := by decide +kernel
theorem dX1_singOn_119 : decode cX1_singOn 119 = .ok (.iadd, 1) := by decide +kernel
theorem dX1_singOn_120 : decode cX1_singOn 120 = .ok (.putfield 51, 3) := by decide +kernel
theorem dX1_singOn_123 : decode cX1_singOn 123 = .ok (.return_, 1) := by decide +kernel
theorem dX1_copyFrom_0 : decode cX1_copyFrom 0 = .ok (.aload_n 0, 1) := by decide +kernel
theorem dX1_copyFrom_1 : decode cX1_copyFrom 1 = .ok (.aload_n 1, 1) := by decide +kernel
theorem dX1_copyFrom_2 : decode cX1_copyFrom 2 = .ok (.getfield 9, 3) := by decide +kernel
theorem dX1_copyFrom_5 : decode cX1_copyFrom 5 = .ok (.putfield 9, 3) := by decide +kernel
theorem dX1_copyFrom_8 : decode cX1_copyFrom 8 = .ok (.aload_n 0, 1) := by decide +kernel
theorem dX1_copyFrom_9 : decode cX1_copyFrom 9 = .ok (.aload_n 1, 1) := by decide +kernel
theorem dX1_copyFrom_10 : decode cX1_copyFrom 10 = .ok (.getfield 15, 3) := by decide +kernel
theorem dX1_copyFrom_13 : decode cX1_copyFrom 13 = .ok (.putfield 15, 3) := by decide +kernel
theorem dX1_copyFrom_16 : decode cX1_copyFrom 16 = .ok (.aload_n 0, 1) := by decide +kernel
theorem dX1_copyFrom_17 : decode cX1_copyFrom 17 = .ok (.aload_n 1, 1) := by decide +kernel
theorem dX1_copyFrom_18 : decode cX1_copyFrom 18 = .ok (.getfield 18, 3) := by decide +kernel
theorem dX1_copyFrom_21 : decode cX1_copyFrom 21 = .ok (.putfield 18, 3) := by decide +kernel
theorem dX1_copyFrom_24 : decode cX1_copyFrom 24 = .ok (.aload_n 0, 1) := by decide +kernel
theorem dX1_copyFrom_25 : decode cX1_copyFrom 25 = .ok (.aload_n 1, 1) := by decide +kernel
theorem dX1_copyFrom_26 : decode cX1_copyFrom 26 = .ok (.getfield 21, 3) := by decide +kernel
theorem dX1_copyFrom_29 : decode cX1_copyFrom 29 = .ok (.putfield 21, 3) := by decide +kernel
theorem dX1_copyFrom_32 : decode cX1_copyFrom 32 = .ok (.aload_n 0, 1) := by decide +kernel
theorem dX1_copyFrom_33 : decode cX1_copyFrom 33 = .ok (.aload_n 1, 1) := by decide +kernel
theorem dX1_copyFrom_34 : decode cX1_copyFrom 34 = .ok (.getfield 24, 3) := by decide +kernel
theorem dX1_copyFrom_37 : decode cX1_copyFrom 37 = .ok (.putfield 24, 3) := by decide +kernel
theorem dX1_copyFrom_40 : decode cX1_copyFrom 40 = .ok (.aload_n 0, 1) := by decide +kernel
theorem dX1_copyFrom_41 : decode cX1_copyFrom 41 = .ok (.aload_n 1, 1) := by decide +kernel
theorem dX1_copyFrom_42 : decode cX1_copyFrom 42 = .ok (.getfield 27, 3) := by decide +kernel
theorem dX1_copyFrom_45 : decode cX1_copyFrom 45 = .ok (.putfield 27, 3) := by decide +kernel
theorem dX1_copyFrom_48 : decode cX1_copyFrom 48 = .ok (.aload_n 0, 1) := by decide +kernel
theorem dX1_copyFrom_49 : decode cX1_copyFrom 49 = .ok (.aload_n 1, 1) := by decide +kernel
theorem dX1_copyFrom_50 : decode cX1_copyFrom 50 = .ok (.getfield 30, 3) := by decide +kernel
theorem dX1_copyFrom_53 : decode cX1_copyFrom 53 = .ok (.putfield 30, 3) := by decide +kernel
theorem dX1_copyFrom_56 : decode cX1_copyFrom 56 = .ok (.aload_n 0, 1) := by decide +kernel
theorem dX1_copyFrom_57 : decode cX1_copyFrom 57 = .ok (.aload_n 1, 1) := by decide +kernel
theorem dX1_copyFrom_58 : decode cX1_copyFrom 58 = .ok (.getfield 33, 3) := by decide +kernel
theorem dX1_copyFrom_61 : decode cX1_copyFrom 61 = .ok (.putfield 33, 3) := by decide +kernel
theorem dX1_copyFrom_64 : decode cX1_copyFrom 64 = .ok (.aload_n 0, 1) := by decide +kernel
theorem dX1_copyFrom_65 : decode cX1_copyFrom 65 = .ok (.aload_n 1, 1) := by decide +kernel
theorem dX1_copyFrom_66 : decode cX1_copyFrom 66 = .ok (.getfield 36, 3) := by decide +kernel
theorem dX1_copyFrom_69 : decode cX1_copyFrom 69 = .ok (.putfield 36, 3) := by decide +kernel
theorem dX1_copyFrom_72 : decode cX1_copyFrom 72 = .ok (.aload_n 0, 1) := by decide +kernel
theorem dX1_copyFrom_73 : decode cX1_copyFrom 73 = .ok (.aload_n 1, 1) := by decide +kernel
theorem dX1_copyFrom_74 : decode cX1_copyFrom 74 = .ok (.getfield 39, 3) := by decide +kernel
theorem dX1_copyFrom_77 : decode cX1_copyFrom 77 = .ok (.putfield 39, 3) := by decide +kernel
theorem dX1_copyFrom_80 : decode cX1_copyFrom 80 = .ok (.aload_n 0, 1) := by decide +kernel
theorem dX1_copyFrom_81 : decode cX1_copyFrom 81 = .ok (.aload_n 1, 1) := by decide +kernel
theorem dX1_copyFrom_82 : decode cX1_copyFrom 82 = .ok (.getfield 42, 3) := by decide +kernel
theorem dX1_copyFrom_85 : decode cX1_copyFrom 85 = .ok (.putfield 42, 3) := by decide +kernel
theorem dX1_copyFrom_88 : decode cX1_copyFrom 88 = .ok (.aload_n 0, 1) := by decide +kernel
theorem dX1_copyFrom_89 : decode cX1_copyFrom 89 = .ok (.aload_n 1, 1) := by decide +kernel
theorem dX1_copyFrom_90 : decode cX1_copyFrom 90 = .ok (.getfield 45, 3) := by decide +kernel
theorem dX1_copyFrom_93 : decode cX1_copyFrom 93 = .ok (.putfield 45, 3) := by decide +kernel
theorem dX1_copyFrom_96 : decode cX1_copyFrom 96 = .ok (.aload_n 0, 1) := by decide +kernel
theorem dX1_copyFrom_97 : decode cX1_copyFrom 97 = .ok (.aload_n 1, 1) := by decide +kernel
theorem dX1_copyFrom_98 : decode cX1_copyFrom 98 = .ok (.getfield 48, 3) := by decide +kernel
theorem dX1_copyFrom_101 : decode cX1_copyFrom 101 = .ok (.putfield 48, 3) := by decide +kernel
theorem dX1_copyFrom_104 : decode cX1_copyFrom 104 = .ok (.aload_n 0, 1) := by decide +kernel
theorem dX1_copyFrom_105 : decode cX1_copyFrom 105 = .ok (.aload_n 1, 1) := by decide +kernel
theorem dX1_copyFrom_106 : decode cX1_copyFrom 106 = .ok (.getfield 51, 3) := by decide +kernel
theorem dX1_copyFrom_109 : decode cX1_copyFrom 109 = .ok (.putfield 51, 3) := by decide +kernel
theorem dX1_copyFrom_112 : decode cX1_copyFrom 112 = .ok (.aload_n 0, 1) := by decide +kernel
theorem dX1_copyFrom_113 : decode cX1_copyFrom 113 = .ok (.aload_n 1, 1) := by decide +kernel
theorem dX1_copyFrom_114 : decode cX1_copyFrom 114 = .ok (.getfield 54, 3) := by decide +kernel
theorem dX1_copyFrom_117 : decode cX1_copyFrom 117 = .ok (.putfield 54, 3) := by decide +kernel
theorem dX1_copyFrom_120 : decode cX1_copyFrom 120 = .ok (.return_, 1) := by decide +kernel
theorem dX2_init_0 : decode cX2_init 0 = .ok (.aload_n 0, 1) := by decide +kernel
theorem dX2_init_1 : decode cX2_init 1 = .ok (.invokespecial 3, 3) := by decide +kernel
theorem dX2_init_4 : decode cX2_init 4 = .ok (.aload_n 0, 1) := by decide +kernel
theorem dX2_init_5 : decode cX2_init 5 = .ok (.bipush 60, 2) := by decide +kernel
theorem dX2_init_7 : decode cX2_init 7 = .ok (.newarray .int, 2) := by decide +kernel
theorem dX2_init_9 : decode cX2_init 9 = .ok (.putfield 9, 3) := by decide +kernel
theorem dX2_init_12 : decode cX2_init 12 = .ok (.return_, 1) := by decide +kernel
theorem dX2_charactersIn_0 : decode cX2_charactersIn 0 = .ok (.iconst 0, 1) := by decide +kernel
theorem dX2_charactersIn_1 : decode cX2_charactersIn 1 = .ok (.istore_n 2, 1) := by decide +kernel
theorem dX2_charactersIn_2 : decode cX2_charactersIn 2 = .ok (.lload_n 0, 1) := by decide +kernel
theorem dX2_charactersIn_3 : decode cX2_charactersIn 3 = .ok (.lstore_n 3, 1) := by decide +kernel
theorem dX2_charactersIn_4 : decode cX2_charactersIn 4 = .ok (.lload_n 3, 1) := by decide +kernel
theorem dX2_charactersIn_5 : decode cX2_charactersIn 5 = .ok (.lconst 0, 1) := by decide +kernel
theorem dX2_charactersIn_6 : decode cX2_charactersIn 6 = .ok (.lcmp, 1) := by decide +kernel
theorem dX2_charactersIn_7 : decode cX2_charactersIn 7 = .ok (.ifCond .eq 43, 3) := by decide +kernel
theorem dX2_charactersIn_10 : decode cX2_charactersIn 10 = .ok (.iload_n 2, 1) := by decide +kernel
theorem dX2_charactersIn_11 : decode cX2_charactersIn 11 = .ok (.bipush 8, 2) := by decide +kernel
theorem dX2_charactersIn_13 : decode cX2_charactersIn 13 = .ok (.if_icmp .ge 37, 3) := by decide +kernel
theorem dX2_charactersIn_16 : decode cX2_charactersIn 16 = .ok (.lload_n 3, 1) := by decide +kernel
theorem dX2_charactersIn_17 : decode cX2_charactersIn 17 = .ok (.iconst 0, 1) := by decide +kernel
theorem dX2_charactersIn_18 : decode cX2_charactersIn 18 = .ok (.invokestatic 15, 3) := by decide +kernel
theorem dX2_charactersIn_21 : decode cX2_charactersIn 21 = .ok (.istore 5, 2) := by decide +kernel
theorem dX2_charactersIn_23 : decode cX2_charactersIn 23 = .ok (.iload 5, 2) := by decide +kernel
theorem dX2_charactersIn_25 : decode cX2_charactersIn 25 = .ok (.bipush 33, 2) := by decide +kernel
theorem dX2_charactersIn_27 : decode cX2_charactersIn 27 = .ok (.if_icmp .lt 10, 3) := by decide +kernel
theorem dX2_charactersIn_30 : decode cX2_charactersIn 30 = .ok (.iload 5, 2) := by decide +kernel
theorem dX2_charactersIn_32 : decode cX2_charactersIn 32 = .ok (.bipush 126, 2) := by decide +kernel
theorem dX2_charactersIn_34 : decode cX2_charactersIn 34 = .ok (.if_icmp .le 5, 3) := by decide +kernel
theorem dX2_charactersIn_37 : decode cX2_charactersIn 37 = .ok (.iconst 0, 1) := by decide +kernel
theorem dX2_charactersIn_38 : decode cX2_charactersIn 38 = .ok (.ireturn, 1) := by decide +kernel
theorem dX2_charactersIn_39 : decode cX2_charactersIn 39 = .ok (.iinc 2 1, 3) := by decide +kernel
theorem dX2_charactersIn_42 : decode cX2_charactersIn 42 = .ok (.lload_n 3, 1) := by decide +kernel
theorem dX2_charactersIn_43 : decode cX2_charactersIn 43 = .ok (.bipush 8, 2) := by decide +kernel
theorem dX2_charactersIn_45 : decode cX2_charactersIn 45 = .ok (.lushr, 1) := by decide +kernel
theorem dX2_charactersIn_46 : decode cX2_charactersIn 46 = .ok (.lstore_n 3, 1) := by decide +kernel
theorem dX2_charactersIn_47 : decode cX2_charactersIn 47 = .ok (.goto (-43), 3) := by decide +kernel
theorem dX2_charactersIn_50 : decode cX2_charactersIn 50 = .ok (.iload_n 2, 1) := by decide +kernel
theorem dX2_charactersIn_51 : decode cX2_charactersIn 51 = .ok (.ireturn, 1) := by decide +kernel
theorem dX2_codeIn_0 : decode cX2_codeIn 0 = .ok (.lload_n 0, 1) := by decide +kernel
theorem dX2_codeIn_1 : decode cX2_codeIn 1 = .ok (.bipush 8, 2) := by decide +kernel
theorem dX2_codeIn_3 : decode cX2_codeIn 3 = .ok (.iload_n 2, 1) := by decide +kernel
theorem dX2_codeIn_4 : decode cX2_codeIn 4 = .ok (.imul, 1) := by decide +kernel
theorem dX2_codeIn_5 : decode cX2_codeIn 5 = .ok (.lushr, 1) := by decide +kernel
theorem dX2_codeIn_6 : decode cX2_codeIn 6 = .ok (.ldc2_w 19, 3) := by decide +kernel
theorem dX2_codeIn_9 : decode cX2_codeIn 9 = .ok (.land, 1) := by decide +kernel
theorem dX2_codeIn_10 : decode cX2_codeIn 10 = .ok (.l2i, 1) := by decide +kernel
theorem dX2_codeIn_11 : decode cX2_codeIn 11 = .ok (.ireturn, 1) := by decide +kernel
theorem dX2_append_0 : decode cX2_append 0 = .ok (.aload_n 0, 1) := by decide +kernel
theorem dX2_append_1 : decode cX2_append 1 = .ok (.getfield 21, 3) := by decide +kernel
theorem dX2_append_4 : decode cX2_append 4 = .ok (.ifCond .lt 32, 3) := by decide +kernel
theorem dX2_append_7 : decode cX2_append 7 = .ok (.aload_n 0, 1) := by decide +kernel
theorem dX2_append_8 : decode cX2_append 8 = .ok (.getfield 21, 3) := by decide +kernel
theorem dX2_append_11 : decode cX2_append 11 = .ok (.bipush 60, 2) := by decide +kernel
theorem dX2_append_13 : decode cX2_append 13 = .ok (.if_icmp .ge 23, 3) := by decide +kernel
theorem dX2_append_16 : decode cX2_append 16 = .ok (.aload_n 0, 1) := by decide +kernel
theorem dX2_append_17 : decode cX2_append 17 = .ok (.getfield 9, 3) := by decide +kernel
theorem dX2_append_20 : decode cX2_append 20 = .ok (.aload_n 0, 1) := by decide +kernel
theorem dX2_append_21 : decode cX2_append 21 = .ok (.getfield 21, 3) := by decide +kernel
theorem dX2_append_24 : decode cX2_append 24 = .ok (.iload_n 1, 1) := by decide +kernel
theorem dX2_append_25 : decode cX2_append 25 = .ok (.iastore, 1) := by decide +kernel
theorem dX2_append_26 : decode cX2_append 26 = .ok (.aload_n 0, 1) := by decide +kernel
theorem dX2_append_27 : decode cX2_append 27 = .ok (.dup, 1) := by decide +kernel
theorem dX2_append_28 : decode cX2_append 28 = .ok (.getfield 21, 3) := by decide +kernel
theorem dX2_append_31 : decode cX2_append 31 = .ok (.iconst 1, 1) := by decide +kernel
theorem dX2_append_32 : decode cX2_append 32 = .ok (.iadd, 1) := by decide +kernel
theorem dX2_append_33 : decode cX2_append 33 = .ok (.putfield 21, 3) := by decide +kernel
theorem dX2_append_36 : decode cX2_append 36 = .ok (.return_, 1) := by decide +kernel
theorem dX2_empty_0 : decode cX2_empty 0 = .ok (.aload_n 0, 1) := by decide +kernel
theorem dX2_empty_1 : decode cX2_empty 1 = .ok (.iconst 0, 1) := by decide +kernel
theorem dX2_empty_2 : decode cX2_empty 2 = .ok (.putfield 21, 3) := by decide +kernel
theorem dX2_empty_5 : decode cX2_empty 5 = .ok (.return_, 1) := by decide +kernel
theorem dX2_faultIndex_0 : decode cX2_faultIndex 0 = .ok (.iconst 1, 1) := by decide +kernel
theorem dX2_faultIndex_1 : decode cX2_faultIndex 1 = .ok (.istore_n 1, 1) := by decide +kernel
theorem dX2_faultIndex_2 : decode cX2_faultIndex 2 = .ok (.iconst 0, 1) := by decide +kernel
theorem dX2_faultIndex_3 : decode cX2_faultIndex 3 = .ok (.istore_n 2, 1) := by decide +kernel
theorem dX2_faultIndex_4 : decode cX2_faultIndex 4 = .ok (.iconst 0, 1) := by decide +kernel
theorem dX2_faultIndex_5 : decode cX2_faultIndex 5 = .ok (.istore_n 3, 1) := by decide +kernel
theorem dX2_faultIndex_6 : decode cX2_faultIndex 6 = .ok (.iconst 0, 1) := by decide +kernel
theorem dX2_faultIndex_7 : decode cX2_faultIndex 7 = .ok (.istore 4, 2) := by decide +kernel
theorem dX2_faultIndex_9 : decode cX2_faultIndex 9 = .ok (.iload 4, 2) := by decide +kernel
theorem dX2_faultIndex_11 : decode cX2_faultIndex 11 = .ok (.aload_n 0, 1) := by decide +kernel
theorem dX2_faultIndex_12 : decode cX2_faultIndex 12 = .ok (.getfield 21, 3) := by decide +kernel
theorem dX2_faultIndex_15 : decode cX2_faultIndex 15 = .ok (.if_icmp .ge 96, 3) := by decide +kernel
theorem dX2_faultIndex_18 : decode cX2_faultIndex 18 = .ok (.iload 4, 2) := by decide +kernel
theorem dX2_faultIndex_20 : decode cX2_faultIndex 20 = .ok (.bipush 60, 2) := by decide +kernel
theorem dX2_faultIndex_22 : decode cX2_faultIndex 22 = .ok (.if_icmp .ge 89, 3) := by decide +kernel
theorem dX2_faultIndex_25 : decode cX2_faultIndex 25 = .ok (.aload_n 0, 1) := by decide +kernel
theorem dX2_faultIndex_26 : decode cX2_faultIndex 26 = .ok (.getfield 9, 3) := by decide +kernel
theorem dX2_faultIndex_29 : decode cX2_faultIndex 29 = .ok (.iload 4, 2) := by decide +kernel
theorem dX2_faultIndex_31 : decode cX2_faultIndex 31 = .ok (.iaload, 1) := by decide +kernel
theorem dX2_faultIndex_32 : decode cX2_faultIndex 32 = .ok (.istore 5, 2) := by decide +kernel
theorem dX2_faultIndex_34 : decode cX2_faultIndex 34 = .ok (.iload 5, 2) := by decide +kernel
theorem dX2_faultIndex_36 : decode cX2_faultIndex 36 = .ok (.bipush 39, 2) := by decide +kernel
theorem dX2_faultIndex_38 : decode cX2_faultIndex 38 = .ok (.if_icmp .ne 15, 3) := by decide +kernel
theorem dX2_faultIndex_41 : decode cX2_faultIndex 41 = .ok (.iload_n 3, 1) := by decide +kernel
theorem dX2_faultIndex_42 : decode cX2_faultIndex 42 = .ok (.ifCond .ne 6, 3) := by decide +kernel
theorem dX2_faultIndex_45 : decode cX2_faultIndex 45 = .ok (.iload 4, 2) := by decide +kernel
theorem dX2_faultIndex_47 : decode cX2_faultIndex 47 = .ok (.ireturn, 1) := by decide +kernel
theorem dX2_faultIndex_48 : decode cX2_faultIndex 48 = .ok (.iconst 0, 1) := by decide +kernel
theorem dX2_faultIndex_49 : decode cX2_faultIndex 49 = .ok (.istore_n 3, 1) := by decide +kernel
theorem dX2_faultIndex_50 : decode cX2_faultIndex 50 = .ok (.goto 55, 3) := by decide +kernel
theorem dX2_faultIndex_53 : decode cX2_faultIndex 53 = .ok (.iload 5, 2) := by decide +kernel
theorem dX2_faultIndex_55 : decode cX2_faultIndex 55 = .ok (.bipush 47, 2) := by decide +kernel
theorem dX2_faultIndex_57 : decode cX2_faultIndex 57 = .ok (.if_icmp .ne 26, 3) := by decide +kernel
theorem dX2_faultIndex_60 : decode cX2_faultIndex 60 = .ok (.iload_n 2, 1) := by decide +kernel
theorem dX2_faultIndex_61 : decode cX2_faultIndex 61 = .ok (.ifCond .eq 9, 3) := by decide +kernel
theorem dX2_faultIndex_64 : decode cX2_faultIndex 64 = .ok (.iload_n 1, 1) := by decide +kernel
theorem dX2_faultIndex_65 : decode cX2_faultIndex 65 = .ok (.bipush 10, 2) := by decide +kernel
theorem dX2_faultIndex_67 : decode cX2_faultIndex 67 = .ok (.if_icmp .ne 6, 3) := by decide +kernel
theorem dX2_faultIndex_70 : decode cX2_faultIndex 70 = .ok (.iload 4, 2) := by decide +kernel
theorem dX2_faultIndex_72 : decode cX2_faultIndex 72 = .ok (.ireturn, 1) := by decide +kernel
theorem dX2_faultIndex_73 : decode cX2_faultIndex 73 = .ok (.iinc 1 1, 3) := by decide +kernel
theorem dX2_faultIndex_76 : decode cX2_faultIndex 76 = .ok (.iconst 0, 1) := by decide +kernel
theorem dX2_faultIndex_77 : decode cX2_faultIndex 77 = .ok (.istore_n 2, 1) := by decide +kernel
theorem dX2_faultIndex_78 : decode cX2_faultIndex 78 = .ok (.iconst 0, 1) := by decide +kernel
theorem dX2_faultIndex_79 : decode cX2_faultIndex 79 = .ok (.istore_n 3, 1) := by decide +kernel
theorem dX2_faultIndex_80 : decode cX2_faultIndex 80 = .ok (.goto 25, 3) := by decide +kernel
theorem dX2_faultIndex_83 : decode cX2_faultIndex 83 = .ok (.iload 5, 2) := by decide +kernel
theorem dX2_faultIndex_85 : decode cX2_faultIndex 85 = .ok (.invokestatic 25, 3) := by decide +kernel
theorem dX2_faultIndex_88 : decode cX2_faultIndex 88 = .ok (.ifCond .eq 9, 3) := by decide +kernel
theorem dX2_faultIndex_91 : decode cX2_faultIndex 91 = .ok (.iload_n 2, 1) := by decide +kernel
theorem dX2_faultIndex_92 : decode cX2_faultIndex 92 = .ok (.bipush 12, 2) := by decide +kernel
theorem dX2_faultIndex_94 : decode cX2_faultIndex 94 = .ok (.if_icmp .ne 6, 3) := by decide +kernel
theorem dX2_faultIndex_97 : decode cX2_faultIndex 97 = .ok (.iload 4, 2) := by decide +kernel
theorem dX2_faultIndex_99 : decode cX2_faultIndex 99 = .ok (.ireturn, 1) := by decide +kernel
theorem dX2_faultIndex_100 : decode cX2_faultIndex 100 = .ok (.iinc 2 1, 3) := by decide +kernel
theorem dX2_faultIndex_103 : decode cX2_faultIndex 103 = .ok (.iconst 1, 1) := by decide +kernel
theorem dX2_faultIndex_104 : decode cX2_faultIndex 104 = .ok (.istore_n 3, 1) := by decide +kernel
theorem dX2_faultIndex_105 : decode cX2_faultIndex 105 = .ok (.iinc 4 1, 3) := by decide +kernel
theorem dX2_faultIndex_108 : decode cX2_faultIndex 108 = .ok (.goto (-99), 3) := by decide +kernel
theorem dX2_faultIndex_111 : decode cX2_faultIndex 111 = .ok (.iload_n 2, 1) := by decide +kernel
theorem dX2_faultIndex_112 : decode cX2_faultIndex 112 = .ok (.ifCond .ne 10, 3) := by decide +kernel
theorem dX2_faultIndex_115 : decode cX2_faultIndex 115 = .ok (.aload_n 0, 1) := by decide +kernel
theorem dX2_faultIndex_116 : decode cX2_faultIndex 116 = .ok (.getfield 21, 3) := by decide +kernel
theorem dX2_faultIndex_119 : decode cX2_faultIndex 119 = .ok (.goto 5, 3) := by decide +kernel
theorem dX2_faultIndex_122 : decode cX2_faultIndex 122 = .ok (.bipush (-6), 2) := by decide +kernel
theorem dX2_faultIndex_124 : decode cX2_faultIndex 124 = .ok (.ireturn, 1) := by decide +kernel
theorem dX2_writeInto_0 : decode cX2_writeInto 0 = .ok (.aload_n 1, 1) := by decide +kernel
theorem dX2_writeInto_1 : decode cX2_writeInto 1 = .ok (.invokevirtual 29, 3) := by decide +kernel
theorem dX2_writeInto_4 : decode cX2_writeInto 4 = .ok (.aload_n 1, 1) := by decide +kernel
theorem dX2_writeInto_5 : decode cX2_writeInto 5 = .ok (.invokevirtual 34, 3) := by decide +kernel
theorem dX2_writeInto_8 : decode cX2_writeInto 8 = .ok (.iconst 0, 1) := by decide +kernel
theorem dX2_writeInto_9 : decode cX2_writeInto 9 = .ok (.istore_n 2, 1) := by decide +kernel
theorem dX2_writeInto_10 : decode cX2_writeInto 10 = .ok (.iload_n 2, 1) := by decide +kernel
theorem dX2_writeInto_11 : decode cX2_writeInto 11 = .ok (.aload_n 0, 1) := by decide +kernel
theorem dX2_writeInto_12 : decode cX2_writeInto 12 = .ok (.getfield 21, 3) := by decide +kernel
theorem dX2_writeInto_15 : decode cX2_writeInto 15 = .ok (.if_icmp .ge 56, 3) := by decide +kernel
theorem dX2_writeInto_18 : decode cX2_writeInto 18 = .ok (.iload_n 2, 1) := by decide +kernel
theorem dX2_writeInto_19 : decode cX2_writeInto 19 = .ok (.bipush 60, 2) := by decide +kernel
theorem dX2_writeInto_21 : decode cX2_writeInto 21 = .ok (.if_icmp .ge 50, 3) := by decide +kernel
theorem dX2_writeInto_24 : decode cX2_writeInto 24 = .ok (.aload_n 0, 1) := by decide +kernel
theorem dX2_writeInto_25 : decode cX2_writeInto 25 = .ok (.getfield 9, 3) := by decide +kernel
theorem dX2_writeInto_28 : decode cX2_writeInto 28 = .ok (.iload_n 2, 1) := by decide +kernel
theorem dX2_writeInto_29 : decode cX2_writeInto 29 = .ok (.iaload, 1) := by decide +kernel
theorem dX2_writeInto_30 : decode cX2_writeInto 30 = .ok (.istore_n 3, 1) := by decide +kernel
theorem dX2_writeInto_31 : decode cX2_writeInto 31 = .ok (.iload_n 3, 1) := by decide +kernel
theorem dX2_writeInto_32 : decode cX2_writeInto 32 = .ok (.bipush 39, 2) := by decide +kernel
theorem dX2_writeInto_34 : decode cX2_writeInto 34 = .ok (.if_icmp .ne 10, 3) := by decide +kernel
theorem dX2_writeInto_37 : decode cX2_writeInto 37 = .ok (.aload_n 1, 1) := by decide +kernel
theorem dX2_writeInto_38 : decode cX2_writeInto 38 = .ok (.invokevirtual 37, 3) := by decide +kernel
theorem dX2_writeInto_41 : decode cX2_writeInto 41 = .ok (.goto 24, 3) := by decide +kernel
theorem dX2_writeInto_44 : decode cX2_writeInto 44 = .ok (.iload_n 3, 1) := by decide +kernel
theorem dX2_writeInto_45 : decode cX2_writeInto 45 = .ok (.bipush 47, 2) := by decide +kernel
theorem dX2_writeInto_47 : decode cX2_writeInto 47 = .ok (.if_icmp .ne 10, 3) := by decide +kernel
theorem dX2_writeInto_50 : decode cX2_writeInto 50 = .ok (.aload_n 1, 1) := by decide +kernel
theorem dX2_writeInto_51 : decode cX2_writeInto 51 = .ok (.invokevirtual 34, 3) := by decide +kernel
theorem dX2_writeInto_54 : decode cX2_writeInto 54 = .ok (.goto 11, 3) := by decide +kernel
theorem dX2_writeInto_57 : decode cX2_writeInto 57 = .ok (.aload_n 1, 1) := by decide +kernel
theorem dX2_writeInto_58 : decode cX2_writeInto 58 = .ok (.iload_n 3, 1) := by decide +kernel
theorem dX2_writeInto_59 : decode cX2_writeInto 59 = .ok (.invokestatic 25, 3) := by decide +kernel
theorem dX2_writeInto_62 : decode cX2_writeInto 62 = .ok (.invokevirtual 40, 3) := by decide +kernel
theorem dX2_writeInto_65 : decode cX2_writeInto 65 = .ok (.iinc 2 1, 3) := by decide +kernel
theorem dX2_writeInto_68 : decode cX2_writeInto 68 = .ok (.goto (-58), 3) := by decide +kernel
theorem dX2_writeInto_71 : decode cX2_writeInto 71 = .ok (.return_, 1) := by decide +kernel
theorem dX2_beatsMeantBy_0 : decode cX2_beatsMeantBy 0 = .ok (.iload_n 0, 1) := by decide +kernel
theorem dX2_beatsMeantBy_1 : decode cX2_beatsMeantBy 1 = .ok (.lookupswitch 41 #[(100, 37), (113, 39), (117, 35)], 35) := by decide +kernel
theorem dX2_beatsMeantBy_36 : decode cX2_beatsMeantBy 36 = .ok (.iconst 2, 1) := by decide +kernel
theorem dX2_beatsMeantBy_37 : decode cX2_beatsMeantBy 37 = .ok (.ireturn, 1) := by decide +kernel
theorem dX2_beatsMeantBy_38 : decode cX2_beatsMeantBy 38 = .ok (.iconst 3, 1) := by decide +kernel
theorem dX2_beatsMeantBy_39 : decode cX2_beatsMeantBy 39 = .ok (.ireturn, 1) := by decide +kernel
theorem dX2_beatsMeantBy_40 : decode cX2_beatsMeantBy 40 = .ok (.iconst 4, 1) := by decide +kernel
theorem dX2_beatsMeantBy_41 : decode cX2_beatsMeantBy 41 = .ok (.ireturn, 1) := by decide +kernel
theorem dX2_beatsMeantBy_42 : decode cX2_beatsMeantBy 42 = .ok (.iconst 0, 1) := by decide +kernel
theorem dX2_beatsMeantBy_43 : decode cX2_beatsMeantBy 43 = .ok (.ireturn, 1) := by decide +kernel
theorem dX3_init_0 : decode cX3_init 0 = .ok (.aload_n 0, 1) := by decide +kernel
theorem dX3_init_1 : decode cX3_init 1 = .ok (.invokespecial 3, 3) := by decide +kernel
theorem dX3_init_4 : decode cX3_init 4 = .ok (.aload_n 0, 1) := by decide +kernel
theorem dX3_init_5 : decode cX3_init 5 = .ok (.bipush 12, 2) := by decide +kernel
theorem dX3_init_7 : decode cX3_init 7 = .ok (.newarray .int, 2) := by decide +kernel
theorem dX3_init_9 : decode cX3_init 9 = .ok (.putfield 9, 3) := by decide +kernel
theorem dX3_init_12 : decode cX3_init 12 = .ok (.aload_n 0, 1) := by decide +kernel
theorem dX3_init_13 : decode cX3_init 13 = .ok (.bipush 12, 2) := by decide +kernel
theorem dX3_init_15 : decode cX3_init 15 = .ok (.newarray .int, 2) := by decide +kernel
theorem dX3_init_17 : decode cX3_init 17 = .ok (.putfield 15, 3) := by decide +kernel
theorem dX3_init_20 : decode cX3_init 20 = .ok (.aload_n 0, 1) := by decide +kernel
theorem dX3_init_21 : decode cX3_init 21 = .ok (.bipush 12, 2) := by decide +kernel
theorem dX3_init_23 : decode cX3_init 23 = .ok (.newarray .boolean, 2) := by decide +kernel
theorem dX3_init_25 : decode cX3_init 25 = .ok (.putfield 18, 3) := by decide +kernel
theorem dX3_init_28 : decode cX3_init 28 = .ok (.return_, 1) := by decide +kernel
theorem dX3_add_0 : decode cX3_add 0 = .ok (.aload_n 0, 1) := by decide +kernel
theorem dX3_add_1 : decode cX3_add 1 = .ok (.getfield 22, 3) := by decide +kernel
theorem dX3_add_4 : decode cX3_add 4 = .ok (.ifCond .lt 52, 3) := by decide +kernel
theorem dX3_add_7 : decode cX3_add 7 = .ok (.aload_n 0, 1) := by decide +kernel
theorem dX3_add_8 : decode cX3_add 8 = .ok (.getfield 22, 3) := by decide +kernel
theorem dX3_add_11 : decode cX3_add 11 = .ok (.bipush 12, 2) := by decide +kernel
theorem dX3_add_13 : decode cX3_add 13 = .ok (.if_icmp .ge 43, 3) := by decide +kernel
theorem dX3_add_16 : decode cX3_add 16 = .ok (.aload_n 0, 1) := by decide +kernel
theorem dX3_add_17 : decode cX3_add 17 = .ok (.getfield 9, 3) := by decide +kernel
theorem dX3_add_20 : decode cX3_add 20 = .ok (.aload_n 0, 1) := by decide +kernel
theorem dX3_add_21 : decode cX3_add 21 = .ok (.getfield 22, 3) := by decide +kernel
theorem dX3_add_24 : decode cX3_add 24 = .ok (.iload_n 1, 1) := by decide +kernel
theorem dX3_add_25 : decode cX3_add 25 = .ok (.iastore, 1) := by decide +kernel
theorem dX3_add_26 : decode cX3_add 26 = .ok (.aload_n 0, 1) := by decide +kernel
theorem dX3_add_27 : decode cX3_add 27 = .ok (.getfield 15, 3) := by decide +kernel
theorem dX3_add_30 : decode cX3_add 30 = .ok (.aload_n 0, 1) := by decide +kernel
theorem dX3_add_31 : decode cX3_add 31 = .ok (.getfield 22, 3) := by decide +kernel
theorem dX3_add_34 : decode cX3_add 34 = .ok (.iload_n 2, 1) := by decide +kernel
theorem dX3_add_35 : decode cX3_add 35 = .ok (.iastore, 1) := by decide +kernel
theorem dX3_add_36 : decode cX3_add 36 = .ok (.aload_n 0, 1) := by decide +kernel
theorem dX3_add_37 : decode cX3_add 37 = .ok (.getfield 18, 3) := by decide +kernel
theorem dX3_add_40 : decode cX3_add 40 = .ok (.aload_n 0, 1) := by decide +kernel
theorem dX3_add_41 : decode cX3_add 41 = .ok (.getfield 22, 3) := by decide +kernel
theorem dX3_add_44 : decode cX3_add 44 = .ok (.iload_n 3, 1) := by decide +kernel
theorem dX3_add_45 : decode cX3_add 45 = .ok (.bastore, 1) := by decide +kernel
theorem dX3_add_46 : decode cX3_add 46 = .ok (.aload_n 0, 1) := by decide +kernel
theorem dX3_add_47 : decode cX3_add 47 = .ok (.dup, 1) := by decide +kernel
theorem dX3_add_48 : decode cX3_add 48 = .ok (.getfield 22, 3) := by decide +kernel
theorem dX3_add_51 : decode cX3_add 51 = .ok (.iconst 1, 1) := by decide +kernel
theorem dX3_add_52 : decode cX3_add 52 = .ok (.iadd, 1) := by decide +kernel
theorem dX3_add_53 : decode cX3_add 53 = .ok (.putfield 22, 3) := by decide +kernel
theorem dX3_add_56 : decode cX3_add 56 = .ok (.return_, 1) := by decide +kernel
theorem dX3_remove_0 : decode cX3_remove 0 = .ok (.aload_n 0, 1) := by decide +kernel
theorem dX3_remove_1 : decode cX3_remove 1 = .ok (.iload_n 1, 1) := by decide +kernel
theorem dX3_remove_2 : decode cX3_remove 2 = .ok (.invokevirtual 26, 3) := by decide +kernel
theorem dX3_remove_5 : decode cX3_remove 5 = .ok (.ifCond .ne 4, 3) := by decide +kernel
theorem dX3_remove_8 : decode cX3_remove 8 = .ok (.return_, 1) := by decide +kernel
theorem dX3_remove_9 : decode cX3_remove 9 = .ok (.iload_n 1, 1) := by decide +kernel
theorem dX3_remove_10 : decode cX3_remove 10 = .ok (.istore_n 2, 1) := by decide +kernel
theorem dX3_remove_11 : decode cX3_remove 11 = .ok (.iload_n 2, 1) := by decide +kernel
theorem dX3_remove_12 : decode cX3_remove 12 = .ok (.iconst 1, 1) := by decide +kernel
theorem dX3_remove_13 : decode cX3_remove 13 = .ok (.iadd, 1) := by decide +kernel
theorem dX3_remove_14 : decode cX3_remove 14 = .ok (.bipush 12, 2) := by decide +kernel
theorem dX3_remove_16 : decode cX3_remove 16 = .ok (.if_icmp .ge 51, 3) := by decide +kernel
theorem dX3_remove_19 : decode cX3_remove 19 = .ok (.aload_n 0, 1) := by decide +kernel
theorem dX3_remove_20 : decode cX3_remove 20 = .ok (.getfield 9, 3) := by decide +kernel
theorem dX3_remove_23 : decode cX3_remove 23 = .ok (.iload_n 2, 1) := by decide +kernel
theorem dX3_remove_24 : decode cX3_remove 24 = .ok (.aload_n 0, 1) := by decide +kernel
theorem dX3_remove_25 : decode cX3_remove 25 = .ok (.getfield 9, 3) := by decide +kernel
theorem dX3_remove_28 : decode cX3_remove 28 = .ok (.iload_n 2, 1) := by decide +kernel
theorem dX3_remove_29 : decode cX3_remove 29 = .ok (.iconst 1, 1) := by decide +kernel
theorem dX3_remove_30 : decode cX3_remove 30 = .ok (.iadd, 1) := by decide +kernel
theorem dX3_remove_31 : decode cX3_remove 31 = .ok (.iaload, 1) := by decide +kernel
theorem dX3_remove_32 : decode cX3_remove 32 = .ok (.iastore, 1) := by decide +kernel
theorem dX3_remove_33 : decode cX3_remove 33 = .ok (.aload_n 0, 1) := by decide +kernel
theorem dX3_remove_34 : decode cX3_remove 34 = .ok (.getfield 15, 3) := by decide +kernel
theorem dX3_remove_37 : decode cX3_remove 37 = .ok (.iload_n 2, 1) := by decide +kernel
theorem dX3_remove_38 : decode cX3_remove 38 = .ok (.aload_n 0, 1) := by decide +kernel
theorem dX3_remove_39 : decode cX3_remove 39 = .ok (.getfield 15, 3) := by decide +kernel
theorem dX3_remove_42 : decode cX3_remove 42 = .ok (.iload_n 2, 1) := by decide +kernel
theorem dX3_remove_43 : decode cX3_remove 43 = .ok (.iconst 1, 1) := by decide +kernel
theorem dX3_remove_44 : decode cX3_remove 44 = .ok (.iadd, 1) := by decide +kernel
theorem dX3_remove_45 : decode cX3_remove 45 = .ok (.iaload, 1) := by decide +kernel
theorem dX3_remove_46 : decode cX3_remove 46 = .ok (.iastore, 1) := by decide +kernel
theorem dX3_remove_47 : decode cX3_remove 47 = .ok (.aload_n 0, 1) := by decide +kernel
theorem dX3_remove_48 : decode cX3_remove 48 = .ok (.getfield 18, 3) := by decide +kernel
theorem dX3_remove_51 : decode cX3_remove 51 = .ok (.iload_n 2, 1) := by decide +kernel
theorem dX3_remove_52 : decode cX3_remove 52 = .ok (.aload_n 0, 1) := by decide +kernel
theorem dX3_remove_53 : decode cX3_remove 53 = .ok (.getfield 18, 3) := by decide +kernel
theorem dX3_remove_56 : decode cX3_remove 56 = .ok (.iload_n 2, 1) := by decide +kernel
theorem dX3_remove_57 : decode cX3_remove 57 = .ok (.iconst 1, 1) := by decide +kernel
theorem dX3_remove_58 : decode cX3_remove 58 = .ok (.iadd, 1) := by decide +kernel
theorem dX3_remove_59 : decode cX3_remove 59 = .ok (.baload, 1) := by decide +kernel
theorem dX3_remove_60 : decode cX3_remove 60 = .ok (.bastore, 1) := by decide +kernel
theorem dX3_remove_61 : decode cX3_remove 61 = .ok (.iinc 2 1, 3) := by decide +kernel
theorem dX3_remove_64 : decode cX3_remove 64 = .ok (.goto (-53), 3) := by decide +kernel
theorem dX3_remove_67 : decode cX3_remove 67 = .ok (.aload_n 0, 1) := by decide +kernel
theorem dX3_remove_68 : decode cX3_remove 68 = .ok (.dup, 1) := by decide +kernel
theorem dX3_remove_69 : decode cX3_remove 69 = .ok (.getfield 22, 3) := by decide +kernel
theorem dX3_remove_72 : decode cX3_remove 72 = .ok (.iconst 1, 1) := by decide +kernel
theorem dX3_remove_73 : decode cX3_remove 73 = .ok (.isub, 1) := by decide +kernel
theorem dX3_remove_74 : decode cX3_remove 74 = .ok (.putfield 22, 3) := by decide +kernel
theorem dX3_remove_77 : decode cX3_remove 77 = .ok (.return_, 1) := by decide +kernel
theorem dX3_has_0 : decode cX3_has 0 = .ok (.iload_n 1, 1) := by decide +kernel
theorem dX3_has_1 : decode cX3_has 1 = .ok (.ifCond .lt 21, 3) := by decide +kernel
theorem dX3_has_4 : decode cX3_has 4 = .ok (.iload_n 1, 1) := by decide +kernel
theorem dX3_has_5 : decode cX3_has 5 = .ok (.aload_n 0, 1) := by decide +kernel
theorem dX3_has_6 : decode cX3_has 6 = .ok (.getfield 22, 3) := by decide +kernel
theorem dX3_has_9 : decode cX3_has 9 = .ok (.if_icmp .ge 13, 3) := by decide +kernel
theorem dX3_has_12 : decode cX3_has 12 = .ok (.iload_n 1, 1) := by decide +kernel
theorem dX3_has_13 : decode cX3_has 13 = .ok (.bipush 12, 2) := by decide +kernel
theorem dX3_has_15 : decode cX3_has 15 = .ok (.if_icmp .ge 7, 3) := by decide +kernel
theorem dX3_has_18 : decode cX3_has 18 = .ok (.iconst 1, 1) := by decide +kernel
theorem dX3_has_19 : decode cX3_has 19 = .ok (.goto 4, 3) := by decide +kernel
theorem dX3_has_22 : decode cX3_has 22 = .ok (.iconst 0, 1) := by decide +kernel
theorem dX3_has_23 : decode cX3_has 23 = .ok (.ireturn, 1) := by decide +kernel
theorem dX3_stepsOf_0 : decode cX3_stepsOf 0 = .ok (.aload_n 0, 1) := by decide +kernel
theorem dX3_stepsOf_1 : decode cX3_stepsOf 1 = .ok (.iload_n 1, 1) := by decide +kernel
theorem dX3_stepsOf_2 : decode cX3_stepsOf 2 = .ok (.invokevirtual 26, 3) := by decide +kernel
theorem dX3_stepsOf_5 : decode cX3_stepsOf 5 = .ok (.ifCond .eq 12, 3) := by decide +kernel
theorem dX3_stepsOf_8 : decode cX3_stepsOf 8 = .ok (.aload_n 0, 1) := by decide +kernel
theorem dX3_stepsOf_9 : decode cX3_stepsOf 9 = .ok (.getfield 9, 3) := by decide +kernel
theorem dX3_stepsOf_12 : decode cX3_stepsOf 12 = .ok (.iload_n 1, 1) := by decide +kernel
theorem dX3_stepsOf_13 : decode cX3_stepsOf 13 = .ok (.iaload, 1) := by decide +kernel
theorem dX3_stepsOf_14 : decode cX3_stepsOf 14 = .ok (.goto 4, 3) := by decide +kernel
theorem dX3_stepsOf_17 : decode cX3_stepsOf 17 = .ok (.iconst 0, 1) := by decide +kernel
theorem dX3_stepsOf_18 : decode cX3_stepsOf 18 = .ok (.ireturn, 1) := by decide +kernel
theorem dX3_slopeOf_0 : decode cX3_slopeOf 0 = .ok (.aload_n 0, 1) := by decide +kernel
theorem dX3_slopeOf_1 : decode cX3_slopeOf 1 = .ok (.iload_n 1, 1) := by decide +kernel
theorem dX3_slopeOf_2 : decode cX3_slopeOf 2 = .ok (.invokevirtual 26, 3) := by decide +kernel
theorem dX3_slopeOf_5 : decode cX3_slopeOf 5 = .ok (.ifCond .eq 12, 3) := by decide +kernel
theorem dX3_slopeOf_8 : decode cX3_slopeOf 8 = .ok (.aload_n 0, 1) := by decide +kernel
theorem dX3_slopeOf_9 : decode cX3_slopeOf 9 = .ok (.getfield 15, 3) := by decide +kernel
theorem dX3_slopeOf_12 : decode cX3_slopeOf 12 = .ok (.iload_n 1, 1) := by decide +kernel
theorem dX3_slopeOf_13 : decode cX3_slopeOf 13 = .ok (.iaload, 1) := by decide +kernel
theorem dX3_slopeOf_14 : decode cX3_slopeOf 14 = .ok (.goto 4, 3) := by decide +kernel
theorem dX3_slopeOf_17 : decode cX3_slopeOf 17 = .ok (.iconst 0, 1) := by decide +kernel
theorem dX3_slopeOf_18 : decode cX3_slopeOf 18 = .ok (.ireturn, 1) := by decide +kernel
theorem dX3_isMuddy_0 : decode cX3_isMuddy 0 = .ok (.aload_n 0, 1) := by decide +kernel
theorem dX3_isMuddy_1 : decode cX3_isMuddy 1 = .ok (.iload_n 1, 1) := by decide +kernel
theorem dX3_isMuddy_2 : decode cX3_isMuddy 2 = .ok (.invokevirtual 26, 3) := by decide +kernel
theorem dX3_isMuddy_5 : decode cX3_isMuddy 5 = .ok (.ifCond .eq 16, 3) := by decide +kernel
theorem dX3_isMuddy_8 : decode cX3_isMuddy 8 = .ok (.aload_n 0, 1) := by decide +kernel
theorem dX3_isMuddy_9 : decode cX3_isMuddy 9 = .ok (.getfield 18, 3) := by decide +kernel
theorem dX3_isMuddy_12 : decode cX3_isMuddy 12 = .ok (.iload_n 1, 1) := by decide +kernel
theorem dX3_isMuddy_13 : decode cX3_isMuddy 13 = .ok (.baload, 1) := by decide +kernel
theorem dX3_isMuddy_14 : decode cX3_isMuddy 14 = .ok (.ifCond .eq 7, 3) := by decide +kernel
theorem dX3_isMuddy_17 : decode cX3_isMuddy 17 = .ok (.iconst 1, 1) := by decide +kernel
theorem dX3_isMuddy_18 : decode cX3_isMuddy 18 = .ok (.goto 4, 3) := by decide +kernel
theorem dX3_isMuddy_21 : decode cX3_isMuddy 21 = .ok (.iconst 0, 1) := by decide +kernel
theorem dX3_isMuddy_22 : decode cX3_isMuddy 22 = .ok (.ireturn, 1) := by decide +kernel
theorem dX3_beatsToSing_0 : decode cX3_beatsToSing 0 = .ok (.aload_n 0, 1) := by decide +kernel
theorem dX3_beatsToSing_1 : decode cX3_beatsToSing 1 = .ok (.iload_n 1, 1) := by decide +kernel
theorem dX3_beatsToSing_2 : decode cX3_beatsToSing 2 = .ok (.invokevirtual 30, 3) := by decide +kernel
theorem dX3_beatsToSing_5 : decode cX3_beatsToSing 5 = .ok (.istore_n 3, 1) := by decide +kernel
theorem dX3_beatsToSing_6 : decode cX3_beatsToSing 6 = .ok (.aload_n 0, 1) := by decide +kernel
theorem dX3_beatsToSing_7 : decode cX3_beatsToSing 7 = .ok (.iload_n 1, 1) := by decide +kernel
theorem dX3_beatsToSing_8 : decode cX3_beatsToSing 8 = .ok (.invokevirtual 34, 3) := by decide +kernel
theorem dX3_beatsToSing_11 : decode cX3_beatsToSing 11 = .ok (.ifCond .eq 8, 3) := by decide +kernel
theorem dX3_beatsToSing_14 : decode cX3_beatsToSing 14 = .ok (.iload_n 2, 1) := by decide +kernel
theorem dX3_beatsToSing_15 : decode cX3_beatsToSing 15 = .ok (.iconst 2, 1) := by decide +kernel
theorem dX3_beatsToSing_16 : decode cX3_beatsToSing 16 = .ok (.if_icmp .ge 5, 3) := by decide +kernel
theorem dX3_beatsToSing_19 : decode cX3_beatsToSing 19 = .ok (.iload_n 3, 1) := by decide +kernel
theorem dX3_beatsToSing_20 : decode cX3_beatsToSing 20 = .ok (.ireturn, 1) := by decide +kernel
theorem dX3_beatsToSing_21 : decode cX3_beatsToSing 21 = .ok (.iload_n 3, 1) := by decide +kernel
theorem dX3_beatsToSing_22 : decode cX3_beatsToSing 22 = .ok (.iload_n 3, 1) := by decide +kernel
theorem dX3_beatsToSing_23 : decode cX3_beatsToSing 23 = .ok (.iconst 1, 1) := by decide +kernel
theorem dX3_beatsToSing_24 : decode cX3_beatsToSing 24 = .ok (.isub, 1) := by decide +kernel
theorem dX3_beatsToSing_25 : decode cX3_beatsToSing 25 = .ok (.iload_n 2, 1) := by decide +kernel
theorem dX3_beatsToSing_26 : decode cX3_beatsToSing 26 = .ok (.iconst 1, 1) := by decide +kernel
theorem dX3_beatsToSing_27 : decode cX3_beatsToSing 27 = .ok (.isub, 1) := by decide +kernel
theorem dX3_beatsToSing_28 : decode cX3_beatsToSing 28 = .ok (.idiv, 1) := by decide +kernel
theorem dX3_beatsToSing_29 : decode cX3_beatsToSing 29 = .ok (.iadd, 1) := by decide +kernel
theorem dX3_beatsToSing_30 : decode cX3_beatsToSing 30 = .ok (.ireturn, 1) := by decide +kernel
theorem dX3_allSteps_0 : decode cX3_allSteps 0 = .ok (.iconst 0, 1) := by decide +kernel
theorem dX3_allSteps_1 : decode cX3_allSteps 1 = .ok (.istore_n 1, 1) := by decide +kernel
theorem dX3_allSteps_2 : decode cX3_allSteps 2 = .ok (.iconst 0, 1) := by decide +kernel
theorem dX3_allSteps_3 : decode cX3_allSteps 3 = .ok (.istore_n 2, 1) := by decide +kernel
theorem dX3_allSteps_4 : decode cX3_allSteps 4 = .ok (.iload_n 2, 1) := by decide +kernel
theorem dX3_allSteps_5 : decode cX3_allSteps 5 = .ok (.bipush 12, 2) := by decide +kernel
theorem dX3_allSteps_7 : decode cX3_allSteps 7 = .ok (.if_icmp .ge 17, 3) := by decide +kernel
theorem dX3_allSteps_10 : decode cX3_allSteps 10 = .ok (.iload_n 1, 1) := by decide +kernel
theorem dX3_allSteps_11 : decode cX3_allSteps 11 = .ok (.aload_n 0, 1) := by decide +kernel
theorem dX3_allSteps_12 : decode cX3_allSteps 12 = .ok (.iload_n 2, 1) := by decide +kernel
theorem dX3_allSteps_13 : decode cX3_allSteps 13 = .ok (.invokevirtual 30, 3) := by decide +kernel
theorem dX3_allSteps_16 : decode cX3_allSteps 16 = .ok (.iadd, 1) := by decide +kernel
theorem dX3_allSteps_17 : decode cX3_allSteps 17 = .ok (.istore_n 1, 1) := by decide +kernel
theorem dX3_allSteps_18 : decode cX3_allSteps 18 = .ok (.iinc 2 1, 3) := by decide +kernel
theorem dX3_allSteps_21 : decode cX3_allSteps 21 = .ok (.goto (-17), 3) := by decide +kernel
theorem dX3_allSteps_24 : decode cX3_allSteps 24 = .ok (.iload_n 1, 1) := by decide +kernel
theorem dX3_allSteps_25 : decode cX3_allSteps 25 = .ok (.ireturn, 1) := by decide +kernel
theorem dX3_copyFrom_0 : decode cX3_copyFrom 0 = .ok (.aload_n 0, 1) := by decide +kernel
theorem dX3_copyFrom_1 : decode cX3_copyFrom 1 = .ok (.aload_n 1, 1) := by decide +kernel
theorem dX3_copyFrom_2 : decode cX3_copyFrom 2 = .ok (.getfield 22, 3) := by decide +kernel
theorem dX3_copyFrom_5 : decode cX3_copyFrom 5 = .ok (.putfield 22, 3) := by decide +kernel
theorem dX3_copyFrom_8 : decode cX3_copyFrom 8 = .ok (.iconst 0, 1) := by decide +kernel
theorem dX3_copyFrom_9 : decode cX3_copyFrom 9 = .ok (.istore_n 2, 1) := by decide +kernel
theorem dX3_copyFrom_10 : decode cX3_copyFrom 10 = .ok (.iload_n 2, 1) := by decide +kernel
theorem dX3_copyFrom_11 : decode cX3_copyFrom 11 = .ok (.bipush 12, 2) := by decide +kernel
theorem dX3_copyFrom_13 : decode cX3_copyFrom 13 = .ok (.if_icmp .ge 45, 3) := by decide +kernel
theorem dX3_copyFrom_16 : decode cX3_copyFrom 16 = .ok (.aload_n 0, 1) := by decide +kernel
theorem dX3_copyFrom_17 : decode cX3_copyFrom 17 = .ok (.getfield 9, 3) := by decide +kernel
theorem dX3_copyFrom_20 : decode cX3_copyFrom 20 = .ok (.iload_n 2, 1) := by decide +kernel
theorem dX3_copyFrom_21 : decode cX3_copyFrom 21 = .ok (.aload_n 1, 1) := by decide +kernel
theorem dX3_copyFrom_22 : decode cX3_copyFrom 22 = .ok (.getfield 9, 3) := by decide +kernel
theorem dX3_copyFrom_25 : decode cX3_copyFrom 25 = .ok (.iload_n 2, 1) := by decide +kernel
theorem dX3_copyFrom_26 : decode cX3_copyFrom 26 = .ok (.iaload, 1) := by decide +kernel
theorem dX3_copyFrom_27 : decode cX3_copyFrom 27 = .ok (.iastore, 1) := by decide +kernel
theorem dX3_copyFrom_28 : decode cX3_copyFrom 28 = .ok (.aload_n 0, 1) := by decide +kernel
theorem dX3_copyFrom_29 : decode cX3_copyFrom 29 = .ok (.getfield 15, 3) := by decide +kernel
theorem dX3_copyFrom_32 : decode cX3_copyFrom 32 = .ok (.iload_n 2, 1) := by decide +kernel
theorem dX3_copyFrom_33 : decode cX3_copyFrom 33 = .ok (.aload_n 1, 1) := by decide +kernel
theorem dX3_copyFrom_34 : decode cX3_copyFrom 34 = .ok (.getfield 15, 3) := by decide +kernel
theorem dX3_copyFrom_37 : decode cX3_copyFrom 37 = .ok (.iload_n 2, 1) := by decide +kernel
theorem dX3_copyFrom_38 : decode cX3_copyFrom 38 = .ok (.iaload, 1) := by decide +kernel
theorem dX3_copyFrom_39 : decode cX3_copyFrom 39 = .ok (.iastore, 1) := by decide +kernel
theorem dX3_copyFrom_40 : decode cX3_copyFrom 40 = .ok (.aload_n 0, 1) := by decide +kernel
theorem dX3_copyFrom_41 : decode cX3_copyFrom 41 = .ok (.getfield 18, 3) := by decide +kernel
theorem dX3_copyFrom_44 : decode cX3_copyFrom 44 = .ok (.iload_n 2, 1) := by decide +kernel
theorem dX3_copyFrom_45 : decode cX3_copyFrom 45 = .ok (.aload_n 1, 1) := by decide +kernel
theorem dX3_copyFrom_46 : decode cX3_copyFrom 46 = .ok (.getfield 18, 3) := by decide +kernel
theorem dX3_copyFrom_49 : decode cX3_copyFrom 49 = .ok (.iload_n 2, 1) := by decide +kernel
theorem dX3_copyFrom_50 : decode cX3_copyFrom 50 = .ok (.baload, 1) := by decide +kernel
theorem dX3_copyFrom_51 : decode cX3_copyFrom 51 = .ok (.bastore, 1) := by decide +kernel
theorem dX3_copyFrom_52 : decode cX3_copyFrom 52 = .ok (.iinc 2 1, 3) := by decide +kernel
theorem dX3_copyFrom_55 : decode cX3_copyFrom 55 = .ok (.goto (-45), 3) := by decide +kernel
theorem dX3_copyFrom_58 : decode cX3_copyFrom 58 = .ok (.return_, 1) := by decide +kernel
theorem dX4_init_0 : decode cX4_init 0 = .ok (.aload_n 0, 1) := by decide +kernel
theorem dX4_init_1 : decode cX4_init 1 = .ok (.invokespecial 3, 3) := by decide +kernel
theorem dX4_init_4 : decode cX4_init 4 = .ok (.aload_n 0, 1) := by decide +kernel
theorem dX4_init_5 : decode cX4_init 5 = .ok (.bipush 6, 2) := by decide +kernel
theorem dX4_init_7 : decode cX4_init 7 = .ok (.newarray .int, 2) := by decide +kernel
theorem dX4_init_9 : decode cX4_init 9 = .ok (.putfield 9, 3) := by decide +kernel
theorem dX4_init_12 : decode cX4_init 12 = .ok (.iconst 0, 1) := by decide +kernel
theorem dX4_init_13 : decode cX4_init 13 = .ok (.istore_n 1, 1) := by decide +kernel
theorem dX4_init_14 : decode cX4_init 14 = .ok (.iload_n 1, 1) := by decide +kernel
theorem dX4_init_15 : decode cX4_init 15 = .ok (.bipush 6, 2) := by decide +kernel
theorem dX4_init_17 : decode cX4_init 17 = .ok (.if_icmp .ge 20, 3) := by decide +kernel
theorem dX4_init_20 : decode cX4_init 20 = .ok (.aload_n 0, 1) := by decide +kernel
theorem dX4_init_21 : decode cX4_init 21 = .ok (.getfield 9, 3) := by decide +kernel
theorem dX4_init_24 : decode cX4_init 24 = .ok (.iload_n 1, 1) := by decide +kernel
theorem dX4_init_25 : decode cX4_init 25 = .ok (.getstatic 15, 3) := by decide +kernel
theorem dX4_init_28 : decode cX4_init 28 = .ok (.iload_n 1, 1) := by decide +kernel
theorem dX4_init_29 : decode cX4_init 29 = .ok (.iaload, 1) := by decide +kernel
theorem dX4_init_30 : decode cX4_init 30 = .ok (.iastore, 1) := by decide +kernel
theorem dX4_init_31 : decode cX4_init 31 = .ok (.iinc 1 1, 3) := by decide +kernel
theorem dX4_init_34 : decode cX4_init 34 = .ok (.goto (-20), 3) := by decide +kernel
theorem dX4_init_37 : decode cX4_init 37 = .ok (.return_, 1) := by decide +kernel
theorem dX4_has_0 : decode cX4_has 0 = .ok (.iload_n 0, 1) := by decide +kernel
theorem dX4_has_1 : decode cX4_has 1 = .ok (.ifCond .lt 13, 3) := by decide +kernel
theorem dX4_has_4 : decode cX4_has 4 = .ok (.iload_n 0, 1) := by decide +kernel
theorem dX4_has_5 : decode cX4_has 5 = .ok (.bipush 6, 2) := by decide +kernel
theorem dX4_has_7 : decode cX4_has 7 = .ok (.if_icmp .ge 7, 3) := by decide +kernel
theorem dX4_has_10 : decode cX4_has 10 = .ok (.iconst 1, 1) := by decide +kernel
theorem dX4_has_11 : decode cX4_has 11 = .ok (.goto 4, 3) := by decide +kernel
theorem dX4_has_14 : decode cX4_has 14 = .ok (.iconst 0, 1) := by decide +kernel
theorem dX4_has_15 : decode cX4_has 15 = .ok (.ireturn, 1) := by decide +kernel
theorem dX4_allows_0 : decode cX4_allows 0 = .ok (.iload_n 0, 1) := by decide +kernel
theorem dX4_allows_1 : decode cX4_allows 1 = .ok (.invokestatic 18, 3) := by decide +kernel
theorem dX4_allows_4 : decode cX4_allows 4 = .ok (.ifCond .eq 25, 3) := by decide +kernel
theorem dX4_allows_7 : decode cX4_allows 7 = .ok (.iload_n 1, 1) := by decide +kernel
theorem dX4_allows_8 : decode cX4_allows 8 = .ok (.getstatic 22, 3) := by decide +kernel
theorem dX4_allows_11 : decode cX4_allows 11 = .ok (.iload_n 0, 1) := by decide +kernel
theorem dX4_allows_12 : decode cX4_allows 12 = .ok (.iaload, 1) := by decide +kernel
theorem dX4_allows_13 : decode cX4_allows 13 = .ok (.if_icmp .lt 16, 3) := by decide +kernel
theorem dX4_allows_16 : decode cX4_allows 16 = .ok (.iload_n 1, 1) := by decide +kernel
theorem dX4_allows_17 : decode cX4_allows 17 = .ok (.getstatic 25, 3) := by decide +kernel
theorem dX4_allows_20 : decode cX4_allows 20 = .ok (.iload_n 0, 1) := by decide +kernel
theorem dX4_allows_21 : decode cX4_allows 21 = .ok (.iaload, 1) := by decide +kernel
theorem dX4_allows_22 : decode cX4_allows 22 = .ok (.if_icmp .gt 7, 3) := by decide +kernel
theorem dX4_allows_25 : decode cX4_allows 25 = .ok (.iconst 1, 1) := by decide +kernel
theorem dX4_allows_26 : decode cX4_allows 26 = .ok (.goto 4, 3) := by decide +kernel
theorem dX4_allows_29 : decode cX4_allows 29 = .ok (.iconst 0, 1) := by decide +kernel
theorem dX4_allows_30 : decode cX4_allows 30 = .ok (.ireturn, 1) := by decide +kernel
theorem dX4_valueOf_0 : decode cX4_valueOf 0 = .ok (.iload_n 1, 1) := by decide +kernel
theorem dX4_valueOf_1 : decode cX4_valueOf 1 = .ok (.invokestatic 18, 3) := by decide +kernel
theorem dX4_valueOf_4 : decode cX4_valueOf 4 = .ok (.ifCond .eq 12, 3) := by decide +kernel
theorem dX4_valueOf_7 : decode cX4_valueOf 7 = .ok (.aload_n 0, 1) := by decide +kernel
theorem dX4_valueOf_8 : decode cX4_valueOf 8 = .ok (.getfield 9, 3) := by decide +kernel
theorem dX4_valueOf_11 : decode cX4_valueOf 11 = .ok (.iload_n 1, 1) := by decide +kernel
theorem dX4_valueOf_12 : decode cX4_valueOf 12 = .ok (.iaload, 1) := by decide +kernel
theorem dX4_valueOf_13 : decode cX4_valueOf 13 = .ok (.goto 4, 3) := by decide +kernel
theorem dX4_valueOf_16 : decode cX4_valueOf 16 = .ok (.iconst 0, 1) := by decide +kernel
theorem dX4_valueOf_17 : decode cX4_valueOf 17 = .ok (.ireturn, 1) := by decide +kernel
theorem dX4_change_0 : decode cX4_change 0 = .ok (.iload_n 1, 1) := by decide +kernel
theorem dX4_change_1 : decode cX4_change 1 = .ok (.invokestatic 18, 3) := by decide +kernel
theorem dX4_change_4 : decode cX4_change 4 = .ok (.ifCond .eq 10, 3) := by decide +kernel
theorem dX4_change_7 : decode cX4_change 7 = .ok (.aload_n 0, 1) := by decide +kernel
theorem dX4_change_8 : decode cX4_change 8 = .ok (.getfield 9, 3) := by decide +kernel
theorem dX4_change_11 : decode cX4_change 11 = .ok (.iload_n 1, 1) := by decide +kernel
theorem dX4_change_12 : decode cX4_change 12 = .ok (.iload_n 2, 1) := by decide +kernel
theorem dX4_change_13 : decode cX4_change 13 = .ok (.iastore, 1) := by decide +kernel
theorem dX4_change_14 : decode cX4_change 14 = .ok (.return_, 1) := by decide +kernel
theorem dX4_copyFrom_0 : decode cX4_copyFrom 0 = .ok (.iconst 0, 1) := by decide +kernel
theorem dX4_copyFrom_1 : decode cX4_copyFrom 1 = .ok (.istore_n 2, 1) := by decide +kernel
theorem dX4_copyFrom_2 : decode cX4_copyFrom 2 = .ok (.iload_n 2, 1) := by decide +kernel
theorem dX4_copyFrom_3 : decode cX4_copyFrom 3 = .ok (.bipush 6, 2) := by decide +kernel
theorem dX4_copyFrom_5 : decode cX4_copyFrom 5 = .ok (.if_icmp .ge 21, 3) := by decide +kernel
theorem dX4_copyFrom_8 : decode cX4_copyFrom 8 = .ok (.aload_n 0, 1) := by decide +kernel
theorem dX4_copyFrom_9 : decode cX4_copyFrom 9 = .ok (.getfield 9, 3) := by decide +kernel
theorem dX4_copyFrom_12 : decode cX4_copyFrom 12 = .ok (.iload_n 2, 1) := by decide +kernel
theorem dX4_copyFrom_13 : decode cX4_copyFrom 13 = .ok (.aload_n 1, 1) := by decide +kernel
theorem dX4_copyFrom_14 : decode cX4_copyFrom 14 = .ok (.getfield 9, 3) := by decide +kernel
theorem dX4_copyFrom_17 : decode cX4_copyFrom 17 = .ok (.iload_n 2, 1) := by decide +kernel
theorem dX4_copyFrom_18 : decode cX4_copyFrom 18 = .ok (.iaload, 1) := by decide +kernel
theorem dX4_copyFrom_19 : decode cX4_copyFrom 19 = .ok (.iastore, 1) := by decide +kernel
theorem dX4_copyFrom_20 : decode cX4_copyFrom 20 = .ok (.iinc 2 1, 3) := by decide +kernel
theorem dX4_copyFrom_23 : decode cX4_copyFrom 23 = .ok (.goto (-21), 3) := by decide +kernel
theorem dX4_copyFrom_26 : decode cX4_copyFrom 26 = .ok (.return_, 1) := by decide +kernel
theorem dX5_init_0 : decode cX5_init 0 = .ok (.aload_n 0, 1) := by decide +kernel
theorem dX5_init_1 : decode cX5_init 1 = .ok (.invokespecial 3, 3) := by decide +kernel
theorem dX5_init_4 : decode cX5_init 4 = .ok (.aload_n 0, 1) := by decide +kernel
theorem dX5_init_5 : decode cX5_init 5 = .ok (.bipush 10, 2) := by decide +kernel
theorem dX5_init_7 : decode cX5_init 7 = .ok (.newarray .int, 2) := by decide +kernel
theorem dX5_init_9 : decode cX5_init 9 = .ok (.putfield 9, 3) := by decide +kernel
theorem dX5_init_12 : decode cX5_init 12 = .ok (.aload_n 0, 1) := by decide +kernel
theorem dX5_init_13 : decode cX5_init 13 = .ok (.bipush 120, 2) := by decide +kernel
theorem dX5_init_15 : decode cX5_init 15 = .ok (.newarray .int, 2) := by decide +kernel
theorem dX5_init_17 : decode cX5_init 17 = .ok (.putfield 15, 3) := by decide +kernel
theorem dX5_init_20 : decode cX5_init 20 = .ok (.aload_n 0, 1) := by decide +kernel
theorem dX5_init_21 : decode cX5_init 21 = .ok (.bipush 120, 2) := by decide +kernel
theorem dX5_init_23 : decode cX5_init 23 = .ok (.newarray .boolean, 2) := by decide +kernel
theorem dX5_init_25 : decode cX5_init 25 = .ok (.putfield 18, 3) := by decide +kernel
theorem dX5_init_28 : decode cX5_init 28 = .ok (.return_, 1) := by decide +kernel
theorem dX5_clear_0 : decode cX5_clear 0 = .ok (.aload_n 0, 1) := by decide +kernel
theorem dX5_clear_1 : decode cX5_clear 1 = .ok (.iconst 0, 1) := by decide +kernel
theorem dX5_clear_2 : decode cX5_clear 2 = .ok (.putfield 22, 3) := by decide +kernel
theorem dX5_clear_5 : decode cX5_clear 5 = .ok (.return_, 1) := by decide +kernel
theorem dX5_addLine_0 : decode cX5_addLine 0 = .ok (.aload_n 0, 1) := by decide +kernel
theorem dX5_addLine_1 : decode cX5_addLine 1 = .ok (.getfield 22, 3) := by decide +kernel
theorem dX5_addLine_4 : decode cX5_addLine 4 = .ok (.ifCond .lt 32, 3) := by decide +kernel
theorem dX5_addLine_7 : decode cX5_addLine 7 = .ok (.aload_n 0, 1) := by decide +kernel
theorem dX5_addLine_8 : decode cX5_addLine 8 = .ok (.getfield 22, 3) := by decide +kernel
theorem dX5_addLine_11 : decode cX5_addLine 11 = .ok (.bipush 10, 2) := by decide +kernel
theorem dX5_addLine_13 : decode cX5_addLine 13 = .ok (.if_icmp .ge 23, 3) := by decide +kernel
theorem dX5_addLine_16 : decode cX5_addLine 16 = .ok (.aload_n 0, 1) := by decide +kernel
theorem dX5_addLine_17 : decode cX5_addLine 17 = .ok (.getfield 9, 3) := by decide +kernel
theorem dX5_addLine_20 : decode cX5_addLine 20 = .ok (.aload_n 0, 1) := by decide +kernel
theorem dX5_addLine_21 : decode cX5_addLine 21 = .ok (.getfield 22, 3) := by decide +kernel
theorem dX5_addLine_24 : decode cX5_addLine 24 = .ok (.iconst 0, 1) := by decide +kernel
theorem dX5_addLine_25 : decode cX5_addLine 25 = .ok (.iastore, 1) := by decide +kernel
theorem dX5_addLine_26 : decode cX5_addLine 26 = .ok (.aload_n 0, 1) := by decide +kernel
theorem dX5_addLine_27 : decode cX5_addLine 27 = .ok (.dup, 1) := by decide +kernel
theorem dX5_addLine_28 : decode cX5_addLine 28 = .ok (.getfield 22, 3) := by decide +kernel
theorem dX5_addLine_31 : decode cX5_addLine 31 = .ok (.iconst 1, 1) := by decide +kernel
theorem dX5_addLine_32 : decode cX5_addLine 32 = .ok (.iadd, 1) := by decide +kernel
theorem dX5_addLine_33 : decode cX5_addLine 33 = .ok (.putfield 22, 3) := by decide +kernel
theorem dX5_addLine_36 : decode cX5_addLine 36 = .ok (.return_, 1) := by decide +kernel
theorem dX5_addFoot_0 : decode cX5_addFoot 0 = .ok (.aload_n 0, 1) := by decide +kernel
theorem dX5_addFoot_1 : decode cX5_addFoot 1 = .ok (.getfield 22, 3) := by decide +kernel
theorem dX5_addFoot_4 : decode cX5_addFoot 4 = .ok (.iconst 1, 1) := by decide +kernel
theorem dX5_addFoot_5 : decode cX5_addFoot 5 = .ok (.isub, 1) := by decide +kernel
theorem dX5_addFoot_6 : decode cX5_addFoot 6 = .ok (.istore_n 2, 1) := by decide +kernel
theorem dX5_addFoot_7 : decode cX5_addFoot 7 = .ok (.aload_n 0, 1) := by decide +kernel
theorem dX5_addFoot_8 : decode cX5_addFoot 8 = .ok (.iload_n 2, 1) := by decide +kernel
theorem dX5_addFoot_9 : decode cX5_addFoot 9 = .ok (.invokevirtual 26, 3) := by decide +kernel
theorem dX5_addFoot_12 : decode cX5_addFoot 12 = .ok (.ifCond .eq 23, 3) := by decide +kernel
theorem dX5_addFoot_15 : decode cX5_addFoot 15 = .ok (.aload_n 0, 1) := by decide +kernel
theorem dX5_addFoot_16 : decode cX5_addFoot 16 = .ok (.getfield 9, 3) := by decide +kernel
theorem dX5_addFoot_19 : decode cX5_addFoot 19 = .ok (.iload_n 2, 1) := by decide +kernel
theorem dX5_addFoot_20 : decode cX5_addFoot 20 = .ok (.iaload, 1) := by decide +kernel
theorem dX5_addFoot_21 : decode cX5_addFoot 21 = .ok (.ifCond .lt 14, 3) := by decide +kernel
theorem dX5_addFoot_24 : decode cX5_addFoot 24 = .ok (.aload_n 0, 1) := by decide +kernel
theorem dX5_addFoot_25 : decode cX5_addFoot 25 = .ok (.getfield 9, 3) := by decide +kernel
theorem dX5_addFoot_28 : decode cX5_addFoot 28 = .ok (.iload_n 2, 1) := by decide +kernel
theorem dX5_addFoot_29 : decode cX5_addFoot 29 = .ok (.iaload, 1) := by decide +kernel
theorem dX5_addFoot_30 : decode cX5_addFoot 30 = .ok (.bipush 12, 2) := by decide +kernel
theorem dX5_addFoot_32 : decode cX5_addFoot 32 = .ok (.if_icmp .lt 4, 3) := by decide +kernel
theorem dX5_addFoot_35 : decode cX5_addFoot 35 = .ok (.return_, 1) := by decide +kernel
theorem dX5_addFoot_36 : decode cX5_addFoot 36 = .ok (.iload_n 2, 1) := by decide +kernel
theorem dX5_addFoot_37 : decode cX5_addFoot 37 = .ok (.bipush 12, 2) := by decide +kernel
theorem dX5_addFoot_39 : decode cX5_addFoot 39 = .ok (.imul, 1) := by decide +kernel
theorem dX5_addFoot_40 : decode cX5_addFoot 40 = .ok (.aload_n 0, 1) := by decide +kernel
theorem dX5_addFoot_41 : decode cX5_addFoot 41 = .ok (.getfield 9, 3) := by decide +kernel
theorem dX5_addFoot_44 : decode cX5_addFoot 44 = .ok (.iload_n 2, 1) := by decide +kernel
theorem dX5_addFoot_45 : decode cX5_addFoot 45 = .ok (.iaload, 1) := by decide +kernel
theorem dX5_addFoot_46 : decode cX5_addFoot 46 = .ok (.iadd, 1) := by decide +kernel
theorem dX5_addFoot_47 : decode cX5_addFoot 47 = .ok (.istore_n 3, 1) := by decide +kernel
theorem dX5_addFoot_48 : decode cX5_addFoot 48 = .ok (.aload_n 0, 1) := by decide +kernel
theorem dX5_addFoot_49 : decode cX5_addFoot 49 = .ok (.getfield 15, 3) := by decide +kernel
theorem dX5_addFoot_52 : decode cX5_addFoot 52 = .ok (.iload_n 3, 1) := by decide +kernel
theorem dX5_addFoot_53 : decode cX5_addFoot 53 = .ok (.iload_n 1, 1) := by decide +kernel
theorem dX5_addFoot_54 : decode cX5_addFoot 54 = .ok (.iastore, 1) := by decide +kernel
theorem dX5_addFoot_55 : decode cX5_addFoot 55 = .ok (.aload_n 0, 1) := by decide +kernel
theorem dX5_addFoot_56 : decode cX5_addFoot 56 = .ok (.getfield 18, 3) := by decide +kernel
theorem dX5_addFoot_59 : decode cX5_addFoot 59 = .ok (.iload_n 3, 1) := by decide +kernel
theorem dX5_addFoot_60 : decode cX5_addFoot 60 = .ok (.iconst 0, 1) := by decide +kernel
theorem dX5_addFoot_61 : decode cX5_addFoot 61 = .ok (.bastore, 1) := by decide +kernel
theorem dX5_addFoot_62 : decode cX5_addFoot 62 = .ok (.aload_n 0, 1) := by decide +kernel
theorem dX5_addFoot_63 : decode cX5_addFoot 63 = .ok (.getfield 9, 3) := by decide +kernel
theorem dX5_addFoot_66 : decode cX5_addFoot 66 = .ok (.iload_n 2, 1) := by decide +kernel
theorem dX5_addFoot_67 : decode cX5_addFoot 67 = .ok (.dup2, 1) := by decide +kernel
theorem dX5_addFoot_68 : decode cX5_addFoot 68 = .ok (.iaload, 1) := by decide +kernel
theorem dX5_addFoot_69 : decode cX5_addFoot 69 = .ok (.iconst 1, 1) := by decide +kernel
theorem dX5_addFoot_70 : decode cX5_addFoot 70 = .ok (.iadd, 1) := by decide +kernel
theorem dX5_addFoot_71 : decode cX5_addFoot 71 = .ok (.iastore, 1) := by decide +kernel
theorem dX5_addFoot_72 : decode cX5_addFoot 72 = .ok (.return_, 1) := by decide +kernel
theorem dX5_markLastFoot_0 : decode cX5_markLastFoot 0 = .ok (.aload_n 0, 1) := by decide +kernel
theorem dX5_markLastFoot_1 : decode cX5_markLastFoot 1 = .ok (.getfield 22, 3) := by decide +kernel
theorem dX5_markLastFoot_4 : decode cX5_markLastFoot 4 = .ok (.iconst 1, 1) := by decide +kernel
theorem dX5_markLastFoot_5 : decode cX5_markLastFoot 5 = .ok (.isub, 1) := by decide +kernel
theorem dX5_markLastFoot_6 : decode cX5_markLastFoot 6 = .ok (.istore_n 1, 1) := by decide +kernel
theorem dX5_markLastFoot_7 : decode cX5_markLastFoot 7 = .ok (.aload_n 0, 1) := by decide +kernel
theorem dX5_markLastFoot_8 : decode cX5_markLastFoot 8 = .ok (.iload_n 1, 1) := by decide +kernel
theorem dX5_markLastFoot_9 : decode cX5_markLastFoot 9 = .ok (.invokevirtual 30, 3) := by decide +kernel
theorem dX5_markLastFoot_12 : decode cX5_markLastFoot 12 = .ok (.iconst 1, 1) := by decide +kernel
theorem dX5_markLastFoot_13 : decode cX5_markLastFoot 13 = .ok (.isub, 1) := by decide +kernel
theorem dX5_markLastFoot_14 : decode cX5_markLastFoot 14 = .ok (.istore_n 2, 1) := by decide +kernel
theorem dX5_markLastFoot_15 : decode cX5_markLastFoot 15 = .ok (.aload_n 0, 1) := by decide +kernel
theorem dX5_markLastFoot_16 : decode cX5_markLastFoot 16 = .ok (.iload_n 1, 1) := by decide +kernel
theorem dX5_markLastFoot_17 : decode cX5_markLastFoot 17 = .ok (.iload_n 2, 1) := by decide +kernel
theorem dX5_markLastFoot_18 : decode cX5_markLastFoot 18 = .ok (.invokevirtual 34, 3) := by decide +kernel
theorem dX5_markLastFoot_21 : decode cX5_markLastFoot 21 = .ok (.ifCond .eq 15, 3) := by decide +kernel
theorem dX5_markLastFoot_24 : decode cX5_markLastFoot 24 = .ok (.aload_n 0, 1) := by decide +kernel
theorem dX5_markLastFoot_25 : decode cX5_markLastFoot 25 = .ok (.getfield 18, 3) := by decide +kernel
theorem dX5_markLastFoot_28 : decode cX5_markLastFoot 28 = .ok (.iload_n 1, 1) := by decide +kernel
theorem dX5_markLastFoot_29 : decode cX5_markLastFoot 29 = .ok (.bipush 12, 2) := by decide +kernel
theorem dX5_markLastFoot_31 : decode cX5_markLastFoot 31 = .ok (.imul, 1) := by decide +kernel
theorem dX5_markLastFoot_32 : decode cX5_markLastFoot 32 = .ok (.iload_n 2, 1) := by decide +kernel
theorem dX5_markLastFoot_33 : decode cX5_markLastFoot 33 = .ok (.iadd, 1) := by decide +kernel
theorem dX5_markLastFoot_34 : decode cX5_markLastFoot 34 = .ok (.iconst 1, 1) := by decide +kernel
theorem dX5_markLastFoot_35 : decode cX5_markLastFoot 35 = .ok (.bastore, 1) := by decide +kernel
theorem dX5_markLastFoot_36 : decode cX5_markLastFoot 36 = .ok (.return_, 1) := by decide +kernel
theorem dX5_hasLine_0 : decode cX5_hasLine 0 = .ok (.iload_n 1, 1) := by decide +kernel
theorem dX5_hasLine_1 : decode cX5_hasLine 1 = .ok (.ifCond .lt 21, 3) := by decide +kernel
theorem dX5_hasLine_4 : decode cX5_hasLine 4 = .ok (.iload_n 1, 1) := by decide +kernel
theorem dX5_hasLine_5 : decode cX5_hasLine 5 = .ok (.aload_n 0, 1) := by decide +kernel
theorem dX5_hasLine_6 : decode cX5_hasLine 6 = .ok (.getfield 22, 3) := by decide +kernel
theorem dX5_hasLine_9 : decode cX5_hasLine 9 = .ok (.if_icmp .ge 13, 3) := by decide +kernel
theorem dX5_hasLine_12 : decode cX5_hasLine 12 = .ok (.iload_n 1, 1) := by decide +kernel
theorem dX5_hasLine_13 : decode cX5_hasLine 13 = .ok (.bipush 10, 2) := by decide +kernel
theorem dX5_hasLine_15 : decode cX5_hasLine 15 = .ok (.if_icmp .ge 7, 3) := by decide +kernel
theorem dX5_hasLine_18 : decode cX5_hasLine 18 = .ok (.iconst 1, 1) := by decide +kernel
theorem dX5_hasLine_19 : decode cX5_hasLine 19 = .ok (.goto 4, 3) := by decide +kernel
theorem dX5_hasLine_22 : decode cX5_hasLine 22 = .ok (.iconst 0, 1) := by decide +kernel
theorem dX5_hasLine_23 : decode cX5_hasLine 23 = .ok (.ireturn, 1) := by decide +kernel
theorem dX5_hasFoot_0 : decode cX5_hasFoot 0 = .ok (.aload_n 0, 1) := by decide +kernel
theorem dX5_hasFoot_1 : decode cX5_hasFoot 1 = .ok (.iload_n 1, 1) := by decide +kernel
theorem dX5_hasFoot_2 : decode cX5_hasFoot 2 = .ok (.invokevirtual 26, 3) := by decide +kernel
theorem dX5_hasFoot_5 : decode cX5_hasFoot 5 = .ok (.ifCond .eq 27, 3) := by decide +kernel
theorem dX5_hasFoot_8 : decode cX5_hasFoot 8 = .ok (.iload_n 2, 1) := by decide +kernel
theorem dX5_hasFoot_9 : decode cX5_hasFoot 9 = .ok (.ifCond .lt 23, 3) := by decide +kernel
theorem dX5_hasFoot_12 : decode cX5_hasFoot 12 = .ok (.iload_n 2, 1) := by decide +kernel
theorem dX5_hasFoot_13 : decode cX5_hasFoot 13 = .ok (.aload_n 0, 1) := by decide +kernel
theorem dX5_hasFoot_14 : decode cX5_hasFoot 14 = .ok (.getfield 9, 3) := by decide +kernel
theorem dX5_hasFoot_17 : decode cX5_hasFoot 17 = .ok (.iload_n 1, 1) := by decide +kernel
theorem dX5_hasFoot_18 : decode cX5_hasFoot 18 = .ok (.iaload, 1) := by decide +kernel
theorem dX5_hasFoot_19 : decode cX5_hasFoot 19 = .ok (.if_icmp .ge 13, 3) := by decide +kernel
theorem dX5_hasFoot_22 : decode cX5_hasFoot 22 = .ok (.iload_n 2, 1) := by decide +kernel
theorem dX5_hasFoot_23 : decode cX5_hasFoot 23 = .ok (.bipush 12, 2) := by decide +kernel
theorem dX5_hasFoot_25 : decode cX5_hasFoot 25 = .ok (.if_icmp .ge 7, 3) := by decide +kernel
theorem dX5_hasFoot_28 : decode cX5_hasFoot 28 = .ok (.iconst 1, 1) := by decide +kernel
theorem dX5_hasFoot_29 : decode cX5_hasFoot 29 = .ok (.goto 4, 3) := by decide +kernel
theorem dX5_hasFoot_32 : decode cX5_hasFoot 32 = .ok (.iconst 0, 1) := by decide +kernel
theorem dX5_hasFoot_33 : decode cX5_hasFoot 33 = .ok (.ireturn, 1) := by decide +kernel
theorem dX5_feetOf_0 : decode cX5_feetOf 0 = .ok (.aload_n 0, 1) := by decide +kernel
theorem dX5_feetOf_1 : decode cX5_feetOf 1 = .ok (.iload_n 1, 1) := by decide +kernel
theorem dX5_feetOf_2 : decode cX5_feetOf 2 = .ok (.invokevirtual 26, 3) := by decide +kernel
theorem dX5_feetOf_5 : decode cX5_feetOf 5 = .ok (.ifCond .eq 12, 3) := by decide +kernel
theorem dX5_feetOf_8 : decode cX5_feetOf 8 = .ok (.aload_n 0, 1) := by decide +kernel
theorem dX5_feetOf_9 : decode cX5_feetOf 9 = .ok (.getfield 9, 3) := by decide +kernel
theorem dX5_feetOf_12 : decode cX5_feetOf 12 = .ok (.iload_n 1, 1) := by decide +kernel
theorem dX5_feetOf_13 : decode cX5_feetOf 13 = .ok (.iaload, 1) := by decide +kernel
theorem dX5_feetOf_14 : decode cX5_feetOf 14 = .ok (.goto 4, 3) := by decide +kernel
theorem dX5_feetOf_17 : decode cX5_feetOf 17 = .ok (.iconst 0, 1) := by decide +kernel
theorem dX5_feetOf_18 : decode cX5_feetOf 18 = .ok (.ireturn, 1) := by decide +kernel
theorem dX5_beatsOf_0 : decode cX5_beatsOf 0 = .ok (.aload_n 0, 1) := by decide +kernel
theorem dX5_beatsOf_1 : decode cX5_beatsOf 1 = .ok (.iload_n 1, 1) := by decide +kernel
theorem dX5_beatsOf_2 : decode cX5_beatsOf 2 = .ok (.iload_n 2, 1) := by decide +kernel
theorem dX5_beatsOf_3 : decode cX5_beatsOf 3 = .ok (.invokevirtual 34, 3) := by decide +kernel
theorem dX5_beatsOf_6 : decode cX5_beatsOf 6 = .ok (.ifCond .eq 17, 3) := by decide +kernel
theorem dX5_beatsOf_9 : decode cX5_beatsOf 9 = .ok (.aload_n 0, 1) := by decide +kernel
theorem dX5_beatsOf_10 : decode cX5_beatsOf 10 = .ok (.getfield 15, 3) := by decide +kernel
theorem dX5_beatsOf_13 : decode cX5_beatsOf 13 = .ok (.iload_n 1, 1) := by decide +kernel
theorem dX5_beatsOf_14 : decode cX5_beatsOf 14 = .ok (.bipush 12, 2) := by decide +kernel
theorem dX5_beatsOf_16 : decode cX5_beatsOf 16 = .ok (.imul, 1) := by decide +kernel
theorem dX5_beatsOf_17 : decode cX5_beatsOf 17 = .ok (.iload_n 2, 1) := by decide +kernel
theorem dX5_beatsOf_18 : decode cX5_beatsOf 18 = .ok (.iadd, 1) := by decide +kernel
theorem dX5_beatsOf_19 : decode cX5_beatsOf 19 = .ok (.iaload, 1) := by decide +kernel
theorem dX5_beatsOf_20 : decode cX5_beatsOf 20 = .ok (.goto 4, 3) := by decide +kernel
theorem dX5_beatsOf_23 : decode cX5_beatsOf 23 = .ok (.iconst 0, 1) := by decide +kernel
theorem dX5_beatsOf_24 : decode cX5_beatsOf 24 = .ok (.ireturn, 1) := by decide +kernel
theorem dX5_isMarked_0 : decode cX5_isMarked 0 = .ok (.aload_n 0, 1) := by decide +kernel
theorem dX5_isMarked_1 : decode cX5_isMarked 1 = .ok (.iload_n 1, 1) := by decide +kernel
theorem dX5_isMarked_2 : decode cX5_isMarked 2 = .ok (.iload_n 2, 1) := by decide +kernel
theorem dX5_isMarked_3 : decode cX5_isMarked 3 = .ok (.invokevirtual 34, 3) := by decide +kernel
theorem dX5_isMarked_6 : decode cX5_isMarked 6 = .ok (.ifCond .eq 21, 3) := by decide +kernel
theorem dX5_isMarked_9 : decode cX5_isMarked 9 = .ok (.aload_n 0, 1) := by decide +kernel
theorem dX5_isMarked_10 : decode cX5_isMarked 10 = .ok (.getfield 18, 3) := by decide +kernel
theorem dX5_isMarked_13 : decode cX5_isMarked 13 = .ok (.iload_n 1, 1) := by decide +kernel
theorem dX5_isMarked_14 : decode cX5_isMarked 14 = .ok (.bipush 12, 2) := by decide +kernel
theorem dX5_isMarked_16 : decode cX5_isMarked 16 = .ok (.imul, 1) := by decide +kernel
theorem dX5_isMarked_17 : decode cX5_isMarked 17 = .ok (.iload_n 2, 1) := by decide +kernel
theorem dX5_isMarked_18 : decode cX5_isMarked 18 = .ok (.iadd, 1) := by decide +kernel
theorem dX5_isMarked_19 : decode cX5_isMarked 19 = .ok (.baload, 1) := by decide +kernel
theorem dX5_isMarked_20 : decode cX5_isMarked 20 = .ok (.ifCond .eq 7, 3) := by decide +kernel
theorem dX5_isMarked_23 : decode cX5_isMarked 23 = .ok (.iconst 1, 1) := by decide +kernel
theorem dX5_isMarked_24 : decode cX5_isMarked 24 = .ok (.goto 4, 3) := by decide +kernel
theorem dX5_isMarked_27 : decode cX5_isMarked 27 = .ok (.iconst 0, 1) := by decide +kernel
theorem dX5_isMarked_28 : decode cX5_isMarked 28 = .ok (.ireturn, 1) := by decide +kernel
theorem dX5_beatsOfLine_0 : decode cX5_beatsOfLine 0 = .ok (.iconst 0, 1) := by decide +kernel
theorem dX5_beatsOfLine_1 : decode cX5_beatsOfLine 1 = .ok (.istore_n 2, 1) := by decide +kernel
theorem dX5_beatsOfLine_2 : decode cX5_beatsOfLine 2 = .ok (.iconst 0, 1) := by decide +kernel
theorem dX5_beatsOfLine_3 : decode cX5_beatsOfLine 3 = .ok (.istore_n 3, 1) := by decide +kernel
theorem dX5_beatsOfLine_4 : decode cX5_beatsOfLine 4 = .ok (.iload_n 3, 1) := by decide +kernel
theorem dX5_beatsOfLine_5 : decode cX5_beatsOfLine 5 = .ok (.bipush 12, 2) := by decide +kernel
theorem dX5_beatsOfLine_7 : decode cX5_beatsOfLine 7 = .ok (.if_icmp .ge 18, 3) := by decide +kernel
theorem dX5_beatsOfLine_10 : decode cX5_beatsOfLine 10 = .ok (.iload_n 2, 1) := by decide +kernel
theorem dX5_beatsOfLine_11 : decode cX5_beatsOfLine 11 = .ok (.aload_n 0, 1) := by decide +kernel
theorem dX5_beatsOfLine_12 : decode cX5_beatsOfLine 12 = .ok (.iload_n 1, 1) := by decide +kernel
theorem dX5_beatsOfLine_13 : decode cX5_beatsOfLine 13 = .ok (.iload_n 3, 1) := by decide +kernel
theorem dX5_beatsOfLine_14 : decode cX5_beatsOfLine 14 = .ok (.invokevirtual 38, 3) := by decide +kernel
theorem dX5_beatsOfLine_17 : decode cX5_beatsOfLine 17 = .ok (.iadd, 1) := by decide +kernel
theorem dX5_beatsOfLine_18 : decode cX5_beatsOfLine 18 = .ok (.istore_n 2, 1) := by decide +kernel
theorem dX5_beatsOfLine_19 : decode cX5_beatsOfLine 19 = .ok (.iinc 3 1, 3) := by decide +kernel
theorem dX5_beatsOfLine_22 : decode cX5_beatsOfLine 22 = .ok (.goto (-18), 3) := by decide +kernel
theorem dX5_beatsOfLine_25 : decode cX5_beatsOfLine 25 = .ok (.iload_n 2, 1) := by decide +kernel
theorem dX5_beatsOfLine_26 : decode cX5_beatsOfLine 26 = .ok (.ireturn, 1) := by decide +kernel
theorem dX5_marksOfLine_0 : decode cX5_marksOfLine 0 = .ok (.iconst 0, 1) := by decide +kernel
theorem dX5_marksOfLine_1 : decode cX5_marksOfLine 1 = .ok (.istore_n 2, 1) := by decide +kernel
theorem dX5_marksOfLine_2 : decode cX5_marksOfLine 2 = .ok (.iconst 0, 1) := by decide +kernel
theorem dX5_marksOfLine_3 : decode cX5_marksOfLine 3 = .ok (.istore_n 3, 1) := by decide +kernel
theorem dX5_marksOfLine_4 : decode cX5_marksOfLine 4 = .ok (.iload_n 3, 1) := by decide +kernel
theorem dX5_marksOfLine_5 : decode cX5_marksOfLine 5 = .ok (.bipush 12, 2) := by decide +kernel
theorem dX5_marksOfLine_7 : decode cX5_marksOfLine 7 = .ok (.if_icmp .ge 26, 3) := by decide +kernel
theorem dX5_marksOfLine_10 : decode cX5_marksOfLine 10 = .ok (.iload_n 2, 1) := by decide +kernel
theorem dX5_marksOfLine_11 : decode cX5_marksOfLine 11 = .ok (.aload_n 0, 1) := by decide +kernel
theorem dX5_marksOfLine_12 : decode cX5_marksOfLine 12 = .ok (.iload_n 1, 1) := by decide +kernel
theorem dX5_marksOfLine_13 : decode cX5_marksOfLine 13 = .ok (.iload_n 3, 1) := by decide +kernel
theorem dX5_marksOfLine_14 : decode cX5_marksOfLine 14 = .ok (.invokevirtual 42, 3) := by decide +kernel
theorem dX5_marksOfLine_17 : decode cX5_marksOfLine 17 = .ok (.ifCond .eq 7, 3) := by decide +kernel
theorem dX5_marksOfLine_20 : decode cX5_marksOfLine 20 = .ok (.iconst 1, 1) := by decide +kernel
theorem dX5_marksOfLine_21 : decode cX5_marksOfLine 21 = .ok (.goto 4, 3) := by decide +kernel
theorem dX5_marksOfLine_24 : decode cX5_marksOfLine 24 = .ok (.iconst 0, 1) := by decide +kernel
theorem dX5_marksOfLine_25 : decode cX5_marksOfLine 25 = .ok (.iadd, 1) := by decide +kernel
theorem dX5_marksOfLine_26 : decode cX5_marksOfLine 26 = .ok (.istore_n 2, 1) := by decide +kernel
theorem dX5_marksOfLine_27 : decode cX5_marksOfLine 27 = .ok (.iinc 3 1, 3) := by decide +kernel
theorem dX5_marksOfLine_30 : decode cX5_marksOfLine 30 = .ok (.goto (-26), 3) := by decide +kernel
theorem dX5_marksOfLine_33 : decode cX5_marksOfLine 33 = .ok (.iload_n 2, 1) := by decide +kernel
theorem dX5_marksOfLine_34 : decode cX5_marksOfLine 34 = .ok (.ireturn, 1) := by decide +kernel
theorem dX5_allBeats_0 : decode cX5_allBeats 0 = .ok (.iconst 0, 1) := by decide +kernel
theorem dX5_allBeats_1 : decode cX5_allBeats 1 = .ok (.istore_n 1, 1) := by decide +kernel
theorem dX5_allBeats_2 : decode cX5_allBeats 2 = .ok (.iconst 0, 1) := by decide +kernel
theorem dX5_allBeats_3 : decode cX5_allBeats 3 = .ok (.istore_n 2, 1) := by decide +kernel
theorem dX5_allBeats_4 : decode cX5_allBeats 4 = .ok (.iload_n 2, 1) := by decide +kernel
theorem dX5_allBeats_5 : decode cX5_allBeats 5 = .ok (.bipush 10, 2) := by decide +kernel
theorem dX5_allBeats_7 : decode cX5_allBeats 7 = .ok (.if_icmp .ge 17, 3) := by decide +kernel
theorem dX5_allBeats_10 : decode cX5_allBeats 10 = .ok (.iload_n 1, 1) := by decide +kernel
theorem dX5_allBeats_11 : decode cX5_allBeats 11 = .ok (.aload_n 0, 1) := by decide +kernel
theorem dX5_allBeats_12 : decode cX5_allBeats 12 = .ok (.iload_n 2, 1) := by decide +kernel
theorem dX5_allBeats_13 : decode cX5_allBeats 13 = .ok (.invokevirtual 45, 3) := by decide +kernel
theorem dX5_allBeats_16 : decode cX5_allBeats 16 = .ok (.iadd, 1) := by decide +kernel
theorem dX5_allBeats_17 : decode cX5_allBeats 17 = .ok (.istore_n 1, 1) := by decide +kernel
theorem dX5_allBeats_18 : decode cX5_allBeats 18 = .ok (.iinc 2 1, 3) := by decide +kernel
theorem dX5_allBeats_21 : decode cX5_allBeats 21 = .ok (.goto (-17), 3) := by decide +kernel
theorem dX5_allBeats_24 : decode cX5_allBeats 24 = .ok (.iload_n 1, 1) := by decide +kernel
theorem dX5_allBeats_25 : decode cX5_allBeats 25 = .ok (.ireturn, 1) := by decide +kernel
theorem dX5_allMarks_0 : decode cX5_allMarks 0 = .ok (.iconst 0, 1) := by decide +kernel
theorem dX5_allMarks_1 : decode cX5_allMarks 1 = .ok (.istore_n 1, 1) := by decide +kernel
theorem dX5_allMarks_2 : decode cX5_allMarks 2 = .ok (.iconst 0, 1) := by decide +kernel
theorem dX5_allMarks_3 : decode cX5_allMarks 3 = .ok (.istore_n 2, 1) := by decide +kernel
theorem dX5_allMarks_4 : decode cX5_allMarks 4 = .ok (.iload_n 2, 1) := by decide +kernel
theorem dX5_allMarks_5 : decode cX5_allMarks 5 = .ok (.bipush 10, 2) := by decide +kernel
theorem dX5_allMarks_7 : decode cX5_allMarks 7 = .ok (.if_icmp .ge 17, 3) := by decide +kernel
theorem dX5_allMarks_10 : decode cX5_allMarks 10 = .ok (.iload_n 1, 1) := by decide +kernel
theorem dX5_allMarks_11 : decode cX5_allMarks 11 = .ok (.aload_n 0, 1) := by decide +kernel
theorem dX5_allMarks_12 : decode cX5_allMarks 12 = .ok (.iload_n 2, 1) := by decide +kernel
theorem dX5_allMarks_13 : decode cX5_allMarks 13 = .ok (.invokevirtual 48, 3) := by decide +kernel
theorem dX5_allMarks_16 : decode cX5_allMarks 16 = .ok (.iadd, 1) := by decide +kernel
theorem dX5_allMarks_17 : decode cX5_allMarks 17 = .ok (.istore_n 1, 1) := by decide +kernel
theorem dX5_allMarks_18 : decode cX5_allMarks 18 = .ok (.iinc 2 1, 3) := by decide +kernel
theorem dX5_allMarks_21 : decode cX5_allMarks 21 = .ok (.goto (-17), 3) := by decide +kernel
theorem dX5_allMarks_24 : decode cX5_allMarks 24 = .ok (.iload_n 1, 1) := by decide +kernel
theorem dX5_allMarks_25 : decode cX5_allMarks 25 = .ok (.ireturn, 1) := by decide +kernel
theorem dX5_copyFrom_0 : decode cX5_copyFrom 0 = .ok (.aload_n 0, 1) := by decide +kernel
theorem dX5_copyFrom_1 : decode cX5_copyFrom 1 = .ok (.aload_n 1, 1) := by decide +kernel
theorem dX5_copyFrom_2 : decode cX5_copyFrom 2 = .ok (.getfield 22, 3) := by decide +kernel
theorem dX5_copyFrom_5 : decode cX5_copyFrom 5 = .ok (.putfield 22, 3) := by decide +kernel
theorem dX5_copyFrom_8 : decode cX5_copyFrom 8 = .ok (.iconst 0, 1) := by decide +kernel
theorem dX5_copyFrom_9 : decode cX5_copyFrom 9 = .ok (.istore_n 2, 1) := by decide +kernel
theorem dX5_copyFrom_10 : decode cX5_copyFrom 10 = .ok (.iload_n 2, 1) := by decide +kernel
theorem dX5_copyFrom_11 : decode cX5_copyFrom 11 = .ok (.bipush 10, 2) := by decide +kernel
theorem dX5_copyFrom_13 : decode cX5_copyFrom 13 = .ok (.if_icmp .ge 21, 3) := by decide +kernel
theorem dX5_copyFrom_16 : decode cX5_copyFrom 16 = .ok (.aload_n 0, 1) := by decide +kernel
theorem dX5_copyFrom_17 : decode cX5_copyFrom 17 = .ok (.getfield 9, 3) := by decide +kernel
theorem dX5_copyFrom_20 : decode cX5_copyFrom 20 = .ok (.iload_n 2, 1) := by decide +kernel
theorem dX5_copyFrom_21 : decode cX5_copyFrom 21 = .ok (.aload_n 1, 1) := by decide +kernel
theorem dX5_copyFrom_22 : decode cX5_copyFrom 22 = .ok (.getfield 9, 3) := by decide +kernel
theorem dX5_copyFrom_25 : decode cX5_copyFrom 25 = .ok (.iload_n 2, 1) := by decide +kernel
theorem dX5_copyFrom_26 : decode cX5_copyFrom 26 = .ok (.iaload, 1) := by decide +kernel
theorem dX5_copyFrom_27 : decode cX5_copyFrom 27 = .ok (.iastore, 1) := by decide +kernel
theorem dX5_copyFrom_28 : decode cX5_copyFrom 28 = .ok (.iinc 2 1, 3) := by decide +kernel
theorem dX5_copyFrom_31 : decode cX5_copyFrom 31 = .ok (.goto (-21), 3) := by decide +kernel
theorem dX5_copyFrom_34 : decode cX5_copyFrom 34 = .ok (.iconst 0, 1) := by decide +kernel
theorem dX5_copyFrom_35 : decode cX5_copyFrom 35 = .ok (.istore_n 2, 1) := by decide +kernel
theorem dX5_copyFrom_36 : decode cX5_copyFrom 36 = .ok (.iload_n 2, 1) := by decide +kernel
theorem dX5_copyFrom_37 : decode cX5_copyFrom 37 = .ok (.bipush 120, 2) := by decide +kernel
theorem dX5_copyFrom_39 : decode cX5_copyFrom 39 = .ok (.if_icmp .ge 33, 3) := by decide +kernel
theorem dX5_copyFrom_42 : decode cX5_copyFrom 42 = .ok (.aload_n 0, 1) := by decide +kernel
theorem dX5_copyFrom_43 : decode cX5_copyFrom 43 = .ok (.getfield 15, 3) := by decide +kernel
theorem dX5_copyFrom_46 : decode cX5_copyFrom 46 = .ok (.iload_n 2, 1) := by decide +kernel
theorem dX5_copyFrom_47 : decode cX5_copyFrom 47 = .ok (.aload_n 1, 1) := by decide +kernel
theorem dX5_copyFrom_48 : decode cX5_copyFrom 48 = .ok (.getfield 15, 3) := by decide +kernel
theorem dX5_copyFrom_51 : decode cX5_copyFrom 51 = .ok (.iload_n 2, 1) := by decide +kernel
theorem dX5_copyFrom_52 : decode cX5_copyFrom 52 = .ok (.iaload, 1) := by decide +kernel
theorem dX5_copyFrom_53 : decode cX5_copyFrom 53 = .ok (.iastore, 1) := by decide +kernel
theorem dX5_copyFrom_54 : decode cX5_copyFrom 54 = .ok (.aload_n 0, 1) := by decide +kernel
theorem dX5_copyFrom_55 : decode cX5_copyFrom 55 = .ok (.getfield 18, 3) := by decide +kernel
theorem dX5_copyFrom_58 : decode cX5_copyFrom 58 = .ok (.iload_n 2, 1) := by decide +kernel
theorem dX5_copyFrom_59 : decode cX5_copyFrom 59 = .ok (.aload_n 1, 1) := by decide +kernel
theorem dX5_copyFrom_60 : decode cX5_copyFrom 60 = .ok (.getfield 18, 3) := by decide +kernel
theorem dX5_copyFrom_63 : decode cX5_copyFrom 63 = .ok (.iload_n 2, 1) := by decide +kernel
theorem dX5_copyFrom_64 : decode cX5_copyFrom 64 = .ok (.baload, 1) := by decide +kernel
theorem dX5_copyFrom_65 : decode cX5_copyFrom 65 = .ok (.bastore, 1) := by decide +kernel
theorem dX5_copyFrom_66 : decode cX5_copyFrom 66 = .ok (.iinc 2 1, 3) := by decide +kernel
theorem dX5_copyFrom_69 : decode cX5_copyFrom 69 = .ok (.goto (-33), 3) := by decide +kernel
theorem dX5_copyFrom_72 : decode cX5_copyFrom 72 = .ok (.return_, 1) := by decide +kernel
theorem dX6_init_0 : decode cX6_init 0 = .ok (.aload_n 0, 1) := by decide +kernel
theorem dX6_init_1 : decode cX6_init 1 = .ok (.invokespecial 3, 3) := by decide +kernel
theorem dX6_init_4 : decode cX6_init 4 = .ok (.aload_n 0, 1) := by decide +kernel
theorem dX6_init_5 : decode cX6_init 5 = .ok (.new 9, 3) := by decide +kernel
theorem dX6_init_8 : decode cX6_init 8 = .ok (.dup, 1) := by decide +kernel
theorem dX6_init_9 : decode cX6_init 9 = .ok (.invokespecial 11, 3) := by decide +kernel
theorem dX6_init_12 : decode cX6_init 12 = .ok (.putfield 12, 3) := by decide +kernel
theorem dX6_init_15 : decode cX6_init 15 = .ok (.aload_n 0, 1) := by decide +kernel
theorem dX6_init_16 : decode cX6_init 16 = .ok (.new 18, 3) := by decide +kernel
theorem dX6_init_19 : decode cX6_init 19 = .ok (.dup, 1) := by decide +kernel
theorem dX6_init_20 : decode cX6_init 20 = .ok (.invokespecial 20, 3) := by decide +kernel
theorem dX6_init_23 : decode cX6_init 23 = .ok (.putfield 21, 3) := by decide +kernel
theorem dX6_init_26 : decode cX6_init 26 = .ok (.aload_n 0, 1) := by decide +kernel
theorem dX6_init_27 : decode cX6_init 27 = .ok (.new 25, 3) := by decide +kernel
theorem dX6_init_30 : decode cX6_init 30 = .ok (.dup, 1) := by decide +kernel
theorem dX6_init_31 : decode cX6_init 31 = .ok (.invokespecial 27, 3) := by decide +kernel
theorem dX6_init_34 : decode cX6_init 34 = .ok (.putfield 28, 3) := by decide +kernel
theorem dX6_init_37 : decode cX6_init 37 = .ok (.aload_n 0, 1) := by decide +kernel
theorem dX6_init_38 : decode cX6_init 38 = .ok (.new 32, 3) := by decide +kernel
theorem dX6_init_41 : decode cX6_init 41 = .ok (.dup, 1) := by decide +kernel
theorem dX6_init_42 : decode cX6_init 42 = .ok (.invokespecial 34, 3) := by decide +kernel
theorem dX6_init_45 : decode cX6_init 45 = .ok (.putfield 35, 3) := by decide +kernel
theorem dX6_init_48 : decode cX6_init 48 = .ok (.return_, 1) := by decide +kernel
theorem dX6_startMarch_0 : decode cX6_startMarch 0 = .ok (.aload_n 0, 1) := by decide +kernel
theorem dX6_startMarch_1 : decode cX6_startMarch 1 = .ok (.getfield 35, 3) := by decide +kernel
theorem dX6_startMarch_4 : decode cX6_startMarch 4 = .ok (.aload_n 0, 1) := by decide +kernel
theorem dX6_startMarch_5 : decode cX6_startMarch 5 = .ok (.getfield 12, 3) := by decide +kernel
theorem dX6_startMarch_8 : decode cX6_startMarch 8 = .ok (.iconst 4, 1) := by decide +kernel
theorem dX6_startMarch_9 : decode cX6_startMarch 9 = .ok (.invokevirtual 39, 3) := by decide +kernel
theorem dX6_startMarch_12 : decode cX6_startMarch 12 = .ok (.invokevirtual 43, 3) := by decide +kernel
theorem dX6_startMarch_15 : decode cX6_startMarch 15 = .ok (.return_, 1) := by decide +kernel
theorem dX6_copyFrom_0 : decode cX6_copyFrom 0 = .ok (.aload_n 0, 1) := by decide +kernel
theorem dX6_copyFrom_1 : decode cX6_copyFrom 1 = .ok (.getfield 12, 3) := by decide +kernel
theorem dX6_copyFrom_4 : decode cX6_copyFrom 4 = .ok (.aload_n 1, 1) := by decide +kernel
theorem dX6_copyFrom_5 : decode cX6_copyFrom 5 = .ok (.getfield 12, 3) := by decide +kernel
theorem dX6_copyFrom_8 : decode cX6_copyFrom 8 = .ok (.invokevirtual 47, 3) := by decide +kernel
theorem dX6_copyFrom_11 : decode cX6_copyFrom 11 = .ok (.aload_n 0, 1) := by decide +kernel
theorem dX6_copyFrom_12 : decode cX6_copyFrom 12 = .ok (.getfield 21, 3) := by decide +kernel
theorem dX6_copyFrom_15 : decode cX6_copyFrom 15 = .ok (.aload_n 1, 1) := by decide +kernel
theorem dX6_copyFrom_16 : decode cX6_copyFrom 16 = .ok (.getfield 21, 3) := by decide +kernel
theorem dX6_copyFrom_19 : decode cX6_copyFrom 19 = .ok (.invokevirtual 51, 3) := by decide +kernel
theorem dX6_copyFrom_22 : decode cX6_copyFrom 22 = .ok (.aload_n 0, 1) := by decide +kernel
theorem dX6_copyFrom_23 : decode cX6_copyFrom 23 = .ok (.getfield 28, 3) := by decide +kernel
theorem dX6_copyFrom_26 : decode cX6_copyFrom 26 = .ok (.aload_n 1, 1) := by decide +kernel
theorem dX6_copyFrom_27 : decode cX6_copyFrom 27 = .ok (.getfield 28, 3) := by decide +kernel
theorem dX6_copyFrom_30 : decode cX6_copyFrom 30 = .ok (.invokevirtual 54, 3) := by decide +kernel
theorem dX6_copyFrom_33 : decode cX6_copyFrom 33 = .ok (.aload_n 0, 1) := by decide +kernel
theorem dX6_copyFrom_34 : decode cX6_copyFrom 34 = .ok (.getfield 35, 3) := by decide +kernel
theorem dX6_copyFrom_37 : decode cX6_copyFrom 37 = .ok (.aload_n 1, 1) := by decide +kernel
theorem dX6_copyFrom_38 : decode cX6_copyFrom 38 = .ok (.getfield 35, 3) := by decide +kernel
theorem dX6_copyFrom_41 : decode cX6_copyFrom 41 = .ok (.invokevirtual 57, 3) := by decide +kernel
theorem dX6_copyFrom_44 : decode cX6_copyFrom 44 = .ok (.return_, 1) := by decide +kernel
theorem dX7_init_0 : decode cX7_init 0 = .ok (.aload_n 0, 1) := by decide +kernel
theorem dX7_init_1 : decode cX7_init 1 = .ok (.invokespecial 3, 3) := by decide +kernel
theorem dX7_init_4 : decode cX7_init 4 = .ok (.aload_n 0, 1) := by decide +kernel
theorem dX7_init_5 : decode cX7_init 5 = .ok (.new 9, 3) := by decide +kernel
theorem dX7_init_8 : decode cX7_init 8 = .ok (.dup, 1) := by decide +kernel
theorem dX7_init_9 : decode cX7_init 9 = .ok (.invokespecial 11, 3) := by decide +kernel
theorem dX7_init_12 : decode cX7_init 12 = .ok (.putfield 12, 3) := by decide +kernel
theorem dX7_init_15 : decode cX7_init 15 = .ok (.aload_n 0, 1) := by decide +kernel
theorem dX7_init_16 : decode cX7_init 16 = .ok (.iconst 2, 1) := by decide +kernel
theorem dX7_init_17 : decode cX7_init 17 = .ok (.anewarray 9, 3) := by decide +kernel
theorem dX7_init_20 : decode cX7_init 20 = .ok (.putfield 16, 3) := by decide +kernel
theorem dX7_init_23 : decode cX7_init 23 = .ok (.aload_n 0, 1) := by decide +kernel
theorem dX7_init_24 : decode cX7_init 24 = .ok (.iconst 2, 1) := by decide +kernel
theorem dX7_init_25 : decode cX7_init 25 = .ok (.newarray .boolean, 2) := by decide +kernel
theorem dX7_init_27 : decode cX7_init 27 = .ok (.putfield 20, 3) := by decide +kernel
theorem dX7_init_30 : decode cX7_init 30 = .ok (.aload_n 0, 1) := by decide +kernel
theorem dX7_init_31 : decode cX7_init 31 = .ok (.new 24, 3) := by decide +kernel
theorem dX7_init_34 : decode cX7_init 34 = .ok (.dup, 1) := by decide +kernel
theorem dX7_init_35 : decode cX7_init 35 = .ok (.invokespecial 26, 3) := by decide +kernel
theorem dX7_init_38 : decode cX7_init 38 = .ok (.putfield 27, 3) := by decide +kernel
theorem dX7_init_41 : decode cX7_init 41 = .ok (.aload_n 0, 1) := by decide +kernel
theorem dX7_init_42 : decode cX7_init 42 = .ok (.new 31, 3) := by decide +kernel
theorem dX7_init_45 : decode cX7_init 45 = .ok (.dup, 1) := by decide +kernel
theorem dX7_init_46 : decode cX7_init 46 = .ok (.invokespecial 33, 3) := by decide +kernel
theorem dX7_init_49 : decode cX7_init 49 = .ok (.putfield 34, 3) := by decide +kernel
theorem dX7_init_52 : decode cX7_init 52 = .ok (.aload_n 0, 1) := by decide +kernel
theorem dX7_init_53 : decode cX7_init 53 = .ok (.new 38, 3) := by decide +kernel
theorem dX7_init_56 : decode cX7_init 56 = .ok (.dup, 1) := by decide +kernel
theorem dX7_init_57 : decode cX7_init 57 = .ok (.invokespecial 40, 3) := by decide +kernel
theorem dX7_init_60 : decode cX7_init 60 = .ok (.putfield 41, 3) := by decide +kernel
theorem dX7_init_63 : decode cX7_init 63 = .ok (.aload_n 0, 1) := by decide +kernel
theorem dX7_init_64 : decode cX7_init 64 = .ok (.new 45, 3) := by decide +kernel
theorem dX7_init_67 : decode cX7_init 67 = .ok (.dup, 1) := by decide +kernel
theorem dX7_init_68 : decode cX7_init 68 = .ok (.invokespecial 47, 3) := by decide +kernel
theorem dX7_init_71 : decode cX7_init 71 = .ok (.putfield 48, 3) := by decide +kernel
theorem dX7_init_74 : decode cX7_init 74 = .ok (.iconst 0, 1) := by decide +kernel
theorem dX7_init_75 : decode cX7_init 75 = .ok (.istore_n 1, 1) := by decide +kernel
theorem dX7_init_76 : decode cX7_init 76 = .ok (.iload_n 1, 1) := by decide +kernel
theorem dX7_init_77 : decode cX7_init 77 = .ok (.iconst 2, 1) := by decide +kernel
theorem dX7_init_78 : decode cX7_init 78 = .ok (.if_icmp .ge 22, 3) := by decide +kernel
theorem dX7_init_81 : decode cX7_init 81 = .ok (.aload_n 0, 1) := by decide +kernel
theorem dX7_init_82 : decode cX7_init 82 = .ok (.getfield 16, 3) := by decide +kernel
theorem dX7_init_85 : decode cX7_init 85 = .ok (.iload_n 1, 1) := by decide +kernel
theorem dX7_init_86 : decode cX7_init 86 = .ok (.new 9, 3) := by decide +kernel
theorem dX7_init_89 : decode cX7_init 89 = .ok (.dup, 1) := by decide +kernel
theorem dX7_init_90 : decode cX7_init 90 = .ok (.invokespecial 11, 3) := by decide +kernel
theorem dX7_init_93 : decode cX7_init 93 = .ok (.aastore, 1) := by decide +kernel
theorem dX7_init_94 : decode cX7_init 94 = .ok (.iinc 1 1, 3) := by decide +kernel
theorem dX7_init_97 : decode cX7_init 97 = .ok (.goto (-21), 3) := by decide +kernel
theorem dX7_init_100 : decode cX7_init 100 = .ok (.aload_n 0, 1) := by decide +kernel
theorem dX7_init_101 : decode cX7_init 101 = .ok (.getfield 12, 3) := by decide +kernel
theorem dX7_init_104 : decode cX7_init 104 = .ok (.invokevirtual 52, 3) := by decide +kernel
theorem dX7_init_107 : decode cX7_init 107 = .ok (.return_, 1) := by decide +kernel
theorem dX7_set_0 : decode cX7_set 0 = .ok (.iload_n 1, 1) := by decide +kernel
theorem dX7_set_1 : decode cX7_set 1 = .ok (.iload_n 2, 1) := by decide +kernel
theorem dX7_set_2 : decode cX7_set 2 = .ok (.invokestatic 55, 3) := by decide +kernel
theorem dX7_set_5 : decode cX7_set 5 = .ok (.ifCond .ne 6, 3) := by decide +kernel
theorem dX7_set_8 : decode cX7_set 8 = .ok (.bipush (-2), 2) := by decide +kernel
theorem dX7_set_10 : decode cX7_set 10 = .ok (.ireturn, 1) := by decide +kernel
theorem dX7_set_11 : decode cX7_set 11 = .ok (.aload_n 0, 1) := by decide +kernel
theorem dX7_set_12 : decode cX7_set 12 = .ok (.getfield 27, 3) := by decide +kernel
theorem dX7_set_15 : decode cX7_set 15 = .ok (.aload_n 0, 1) := by decide +kernel
theorem dX7_set_16 : decode cX7_set 16 = .ok (.getfield 12, 3) := by decide +kernel
theorem dX7_set_19 : decode cX7_set 19 = .ok (.invokevirtual 59, 3) := by decide +kernel
theorem dX7_set_22 : decode cX7_set 22 = .ok (.aload_n 0, 1) := by decide +kernel
theorem dX7_set_23 : decode cX7_set 23 = .ok (.getfield 12, 3) := by decide +kernel
theorem dX7_set_26 : decode cX7_set 26 = .ok (.getfield 63, 3) := by decide +kernel
theorem dX7_set_29 : decode cX7_set 29 = .ok (.iload_n 1, 1) := by decide +kernel
theorem dX7_set_30 : decode cX7_set 30 = .ok (.invokevirtual 66, 3) := by decide +kernel
theorem dX7_set_33 : decode cX7_set 33 = .ok (.istore_n 3, 1) := by decide +kernel
theorem dX7_set_34 : decode cX7_set 34 = .ok (.aload_n 0, 1) := by decide +kernel
theorem dX7_set_35 : decode cX7_set 35 = .ok (.getfield 12, 3) := by decide +kernel
theorem dX7_set_38 : decode cX7_set 38 = .ok (.getfield 63, 3) := by decide +kernel
theorem dX7_set_41 : decode cX7_set 41 = .ok (.iload_n 1, 1) := by decide +kernel
theorem dX7_set_42 : decode cX7_set 42 = .ok (.iload_n 2, 1) := by decide +kernel
theorem dX7_set_43 : decode cX7_set 43 = .ok (.invokevirtual 70, 3) := by decide +kernel
theorem dX7_set_46 : decode cX7_set 46 = .ok (.aload_n 0, 1) := by decide +kernel
theorem dX7_set_47 : decode cX7_set 47 = .ok (.getfield 12, 3) := by decide +kernel
theorem dX7_set_50 : decode cX7_set 50 = .ok (.invokevirtual 52, 3) := by decide +kernel
theorem dX7_set_53 : decode cX7_set 53 = .ok (.iload_n 3, 1) := by decide +kernel
theorem dX7_set_54 : decode cX7_set 54 = .ok (.ireturn, 1) := by decide +kernel
theorem dX7_read_0 : decode cX7_read 0 = .ok (.aload_n 0, 1) := by decide +kernel
theorem dX7_read_1 : decode cX7_read 1 = .ok (.getfield 34, 3) := by decide +kernel
theorem dX7_read_4 : decode cX7_read 4 = .ok (.invokevirtual 74, 3) := by decide +kernel
theorem dX7_read_7 : decode cX7_read 7 = .ok (.bipush (-6), 2) := by decide +kernel
theorem dX7_read_9 : decode cX7_read 9 = .ok (.if_icmp .eq 6, 3) := by decide +kernel
theorem dX7_read_12 : decode cX7_read 12 = .ok (.bipush (-3), 2) := by decide +kernel
theorem dX7_read_14 : decode cX7_read 14 = .ok (.ireturn, 1) := by decide +kernel
theorem dX7_read_15 : decode cX7_read 15 = .ok (.aload_n 0, 1) := by decide +kernel
theorem dX7_read_16 : decode cX7_read 16 = .ok (.getfield 27, 3) := by decide +kernel
theorem dX7_read_19 : decode cX7_read 19 = .ok (.aload_n 0, 1) := by decide +kernel
theorem dX7_read_20 : decode cX7_read 20 = .ok (.getfield 12, 3) := by decide +kernel
theorem dX7_read_23 : decode cX7_read 23 = .ok (.invokevirtual 59, 3) := by decide +kernel
theorem dX7_read_26 : decode cX7_read 26 = .ok (.aload_n 0, 1) := by decide +kernel
theorem dX7_read_27 : decode cX7_read 27 = .ok (.getfield 34, 3) := by decide +kernel
theorem dX7_read_30 : decode cX7_read 30 = .ok (.aload_n 0, 1) := by decide +kernel
theorem dX7_read_31 : decode cX7_read 31 = .ok (.getfield 12, 3) := by decide +kernel
theorem dX7_read_34 : decode cX7_read 34 = .ok (.getfield 78, 3) := by decide +kernel
theorem dX7_read_37 : decode cX7_read 37 = .ok (.invokevirtual 82, 3) := by decide +kernel
theorem dX7_read_40 : decode cX7_read 40 = .ok (.aload_n 0, 1) := by decide +kernel
theorem dX7_read_41 : decode cX7_read 41 = .ok (.getfield 34, 3) := by decide +kernel
theorem dX7_read_44 : decode cX7_read 44 = .ok (.invokevirtual 86, 3) := by decide +kernel
theorem dX7_read_47 : decode cX7_read 47 = .ok (.aload_n 0, 1) := by decide +kernel
theorem dX7_read_48 : decode cX7_read 48 = .ok (.getfield 12, 3) := by decide +kernel
theorem dX7_read_51 : decode cX7_read 51 = .ok (.invokevirtual 52, 3) := by decide +kernel
theorem dX7_read_54 : decode cX7_read 54 = .ok (.aload_n 0, 1) := by decide +kernel
theorem dX7_read_55 : decode cX7_read 55 = .ok (.getfield 12, 3) := by decide +kernel
theorem dX7_read_58 : decode cX7_read 58 = .ok (.getfield 78, 3) := by decide +kernel
theorem dX7_read_61 : decode cX7_read 61 = .ok (.getfield 89, 3) := by decide +kernel
theorem dX7_read_64 : decode cX7_read 64 = .ok (.ireturn, 1) := by decide +kernel
theorem dX7_pave_0 : decode cX7_pave 0 = .ok (.iload_n 1, 1) := by decide +kernel
theorem dX7_pave_1 : decode cX7_pave 1 = .ok (.iconst 1, 1) := by decide +kernel
theorem dX7_pave_2 : decode cX7_pave 2 = .ok (.if_icmp .lt 20, 3) := by decide +kernel
theorem dX7_pave_5 : decode cX7_pave 5 = .ok (.iload_n 1, 1) := by decide +kernel
theorem dX7_pave_6 : decode cX7_pave 6 = .ok (.bipush 99, 2) := by decide +kernel
theorem dX7_pave_8 : decode cX7_pave 8 = .ok (.if_icmp .gt 14, 3) := by decide +kernel
theorem dX7_pave_11 : decode cX7_pave 11 = .ok (.iload_n 2, 1) := by decide +kernel
theorem dX7_pave_12 : decode cX7_pave 12 = .ok (.bipush (-3), 2) := by decide +kernel
theorem dX7_pave_14 : decode cX7_pave 14 = .ok (.if_icmp .lt 8, 3) := by decide +kernel
theorem dX7_pave_17 : decode cX7_pave 17 = .ok (.iload_n 2, 1) := by decide +kernel
theorem dX7_pave_18 : decode cX7_pave 18 = .ok (.iconst 3, 1) := by decide +kernel
theorem dX7_pave_19 : decode cX7_pave 19 = .ok (.if_icmp .le 6, 3) := by decide +kernel
theorem dX7_pave_22 : decode cX7_pave 22 = .ok (.bipush (-2), 2) := by decide +kernel
theorem dX7_pave_24 : decode cX7_pave 24 = .ok (.ireturn, 1) := by decide +kernel
theorem dX7_pave_25 : decode cX7_pave 25 = .ok (.aload_n 0, 1) := by decide +kernel
theorem dX7_pave_26 : decode cX7_pave 26 = .ok (.getfield 12, 3) := by decide +kernel
theorem dX7_pave_29 : decode cX7_pave 29 = .ok (.getfield 95, 3) := by decide +kernel
theorem dX7_pave_32 : decode cX7_pave 32 = .ok (.getfield 99, 3) := by decide +kernel
theorem dX7_pave_35 : decode cX7_pave 35 = .ok (.bipush 12, 2) := by decide +kernel
theorem dX7_pave_37 : decode cX7_pave 37 = .ok (.if_icmp .lt 6, 3) := by decide +kernel
theorem dX7_pave_40 : decode cX7_pave 40 = .ok (.bipush (-4), 2) := by decide +kernel
theorem dX7_pave_42 : decode cX7_pave 42 = .ok (.ireturn, 1) := by decide +kernel
theorem dX7_pave_43 : decode cX7_pave 43 = .ok (.aload_n 0, 1) := by decide +kernel
theorem dX7_pave_44 : decode cX7_pave 44 = .ok (.getfield 27, 3) := by decide +kernel
theorem dX7_pave_47 : decode cX7_pave 47 = .ok (.aload_n 0, 1) := by decide +kernel
theorem dX7_pave_48 : decode cX7_pave 48 = .ok (.getfield 12, 3) := by decide +kernel
theorem dX7_pave_51 : decode cX7_pave 51 = .ok (.invokevirtual 59, 3) := by decide +kernel
theorem dX7_pave_54 : decode cX7_pave 54 = .ok (.aload_n 0, 1) := by decide +kernel
theorem dX7_pave_55 : decode cX7_pave 55 = .ok (.getfield 12, 3) := by decide +kernel
theorem dX7_pave_58 : decode cX7_pave 58 = .ok (.getfield 95, 3) := by decide +kernel
theorem dX7_pave_61 : decode cX7_pave 61 = .ok (.iload_n 1, 1) := by decide +kernel
theorem dX7_pave_62 : decode cX7_pave 62 = .ok (.iload_n 2, 1) := by decide +kernel
theorem dX7_pave_63 : decode cX7_pave 63 = .ok (.iload_n 3, 1) := by decide +kernel
theorem dX7_pave_64 : decode cX7_pave 64 = .ok (.invokevirtual 104, 3) := by decide +kernel
theorem dX7_pave_67 : decode cX7_pave 67 = .ok (.aload_n 0, 1) := by decide +kernel
theorem dX7_pave_68 : decode cX7_pave 68 = .ok (.getfield 12, 3) := by decide +kernel
theorem dX7_pave_71 : decode cX7_pave 71 = .ok (.invokevirtual 52, 3) := by decide +kernel
theorem dX7_pave_74 : decode cX7_pave 74 = .ok (.aload_n 0, 1) := by decide +kernel
theorem dX7_pave_75 : decode cX7_pave 75 = .ok (.getfield 12, 3) := by decide +kernel
theorem dX7_pave_78 : decode cX7_pave 78 = .ok (.getfield 95, 3) := by decide +kernel
theorem dX7_pave_81 : decode cX7_pave 81 = .ok (.getfield 99, 3) := by decide +kernel
theorem dX7_pave_84 : decode cX7_pave 84 = .ok (.iconst 1, 1) := by decide +kernel
theorem dX7_pave_85 : decode cX7_pave 85 = .ok (.isub, 1) := by decide +kernel
theorem dX7_pave_86 : decode cX7_pave 86 = .ok (.ireturn, 1) := by decide +kernel
theorem dX7_tear_0 : decode cX7_tear 0 = .ok (.aload_n 0, 1) := by decide +kernel
theorem dX7_tear_1 : decode cX7_tear 1 = .ok (.getfield 12, 3) := by decide +kernel
theorem dX7_tear_4 : decode cX7_tear 4 = .ok (.getfield 95, 3) := by decide +kernel
theorem dX7_tear_7 : decode cX7_tear 7 = .ok (.iload_n 1, 1) := by decide +kernel
theorem dX7_tear_8 : decode cX7_tear 8 = .ok (.invokevirtual 108, 3) := by decide +kernel
theorem dX7_tear_11 : decode cX7_tear 11 = .ok (.ifCond .ne 5, 3) := by decide +kernel
theorem dX7_tear_14 : decode cX7_tear 14 = .ok (.iconst (-1), 1) := by decide +kernel
theorem dX7_tear_15 : decode cX7_tear 15 = .ok (.ireturn, 1) := by decide +kernel
theorem dX7_tear_16 : decode cX7_tear 16 = .ok (.aload_n 0, 1) := by decide +kernel
theorem dX7_tear_17 : decode cX7_tear 17 = .ok (.getfield 27, 3) := by decide +kernel
theorem dX7_tear_20 : decode cX7_tear 20 = .ok (.aload_n 0, 1) := by decide +kernel
theorem dX7_tear_21 : decode cX7_tear 21 = .ok (.getfield 12, 3) := by decide +kernel
theorem dX7_tear_24 : decode cX7_tear 24 = .ok (.invokevirtual 59, 3) := by decide +kernel
theorem dX7_tear_27 : decode cX7_tear 27 = .ok (.aload_n 0, 1) := by decide +kernel
theorem dX7_tear_28 : decode cX7_tear 28 = .ok (.getfield 12, 3) := by decide +kernel
theorem dX7_tear_31 : decode cX7_tear 31 = .ok (.getfield 95, 3) := by decide +kernel
theorem dX7_tear_34 : decode cX7_tear 34 = .ok (.iload_n 1, 1) := by decide +kernel
theorem dX7_tear_35 : decode cX7_tear 35 = .ok (.invokevirtual 112, 3) := by decide +kernel
theorem dX7_tear_38 : decode cX7_tear 38 = .ok (.istore_n 2, 1) := by decide +kernel
theorem dX7_tear_39 : decode cX7_tear 39 = .ok (.aload_n 0, 1) := by decide +kernel
theorem dX7_tear_40 : decode cX7_tear 40 = .ok (.getfield 12, 3) := by decide +kernel
theorem dX7_tear_43 : decode cX7_tear 43 = .ok (.getfield 95, 3) := by decide +kernel
theorem dX7_tear_46 : decode cX7_tear 46 = .ok (.iload_n 1, 1) := by decide +kernel
theorem dX7_tear_47 : decode cX7_tear 47 = .ok (.invokevirtual 115, 3) := by decide +kernel
theorem dX7_tear_50 : decode cX7_tear 50 = .ok (.aload_n 0, 1) := by decide +kernel
theorem dX7_tear_51 : decode cX7_tear 51 = .ok (.getfield 12, 3) := by decide +kernel
theorem dX7_tear_54 : decode cX7_tear 54 = .ok (.invokevirtual 52, 3) := by decide +kernel
theorem dX7_tear_57 : decode cX7_tear 57 = .ok (.iload_n 2, 1) := by decide +kernel
theorem dX7_tear_58 : decode cX7_tear 58 = .ok (.ireturn, 1) := by decide +kernel
theorem dX7_begin_0 : decode cX7_begin 0 = .ok (.aload_n 0, 1) := by decide +kernel
theorem dX7_begin_1 : decode cX7_begin 1 = .ok (.getfield 27, 3) := by decide +kernel
theorem dX7_begin_4 : decode cX7_begin 4 = .ok (.aload_n 0, 1) := by decide +kernel
theorem dX7_begin_5 : decode cX7_begin 5 = .ok (.getfield 12, 3) := by decide +kernel
theorem dX7_begin_8 : decode cX7_begin 8 = .ok (.invokevirtual 59, 3) := by decide +kernel
theorem dX7_begin_11 : decode cX7_begin 11 = .ok (.aload_n 0, 1) := by decide +kernel
theorem dX7_begin_12 : decode cX7_begin 12 = .ok (.getfield 12, 3) := by decide +kernel
theorem dX7_begin_15 : decode cX7_begin 15 = .ok (.getfield 119, 3) := by decide +kernel
theorem dX7_begin_18 : decode cX7_begin 18 = .ok (.getfield 122, 3) := by decide +kernel
theorem dX7_begin_21 : decode cX7_begin 21 = .ok (.istore_n 1, 1) := by decide +kernel
theorem dX7_begin_22 : decode cX7_begin 22 = .ok (.aload_n 0, 1) := by decide +kernel
theorem dX7_begin_23 : decode cX7_begin 23 = .ok (.getfield 12, 3) := by decide +kernel
theorem dX7_begin_26 : decode cX7_begin 26 = .ok (.invokevirtual 52, 3) := by decide +kernel
theorem dX7_begin_29 : decode cX7_begin 29 = .ok (.iload_n 1, 1) := by decide +kernel
theorem dX7_begin_30 : decode cX7_begin 30 = .ok (.ireturn, 1) := by decide +kernel
theorem dX7_march_0 : decode cX7_march 0 = .ok (.iload_n 1, 1) := by decide +kernel
theorem dX7_march_1 : decode cX7_march 1 = .ok (.iconst 1, 1) := by decide +kernel
theorem dX7_march_2 : decode cX7_march 2 = .ok (.if_icmp .lt 10, 3) := by decide +kernel
theorem dX7_march_5 : decode cX7_march 5 = .ok (.iload_n 1, 1) := by decide +kernel
theorem dX7_march_6 : decode cX7_march 6 = .ok (.sipush 500, 3) := by decide +kernel
theorem dX7_march_9 : decode cX7_march 9 = .ok (.if_icmp .le 6, 3) := by decide +kernel
theorem dX7_march_12 : decode cX7_march 12 = .ok (.bipush (-2), 2) := by decide +kernel
theorem dX7_march_14 : decode cX7_march 14 = .ok (.ireturn, 1) := by decide +kernel
theorem dX7_march_15 : decode cX7_march 15 = .ok (.aload_n 0, 1) := by decide +kernel
theorem dX7_march_16 : decode cX7_march 16 = .ok (.invokevirtual 125, 3) := by decide +kernel
theorem dX7_march_19 : decode cX7_march 19 = .ok (.ifCond .eq 23, 3) := by decide +kernel
theorem dX7_march_22 : decode cX7_march 22 = .ok (.aload_n 0, 1) := by decide +kernel
theorem dX7_march_23 : decode cX7_march 23 = .ok (.getfield 12, 3) := by decide +kernel
theorem dX7_march_26 : decode cX7_march 26 = .ok (.getfield 119, 3) := by decide +kernel
theorem dX7_march_29 : decode cX7_march 29 = .ok (.aload_n 0, 1) := by decide +kernel
theorem dX7_march_30 : decode cX7_march 30 = .ok (.getfield 12, 3) := by decide +kernel
theorem dX7_march_33 : decode cX7_march 33 = .ok (.getfield 95, 3) := by decide +kernel
theorem dX7_march_36 : decode cX7_march 36 = .ok (.invokevirtual 129, 3) := by decide +kernel
theorem dX7_march_39 : decode cX7_march 39 = .ok (.ifCond .eq 6, 3) := by decide +kernel
theorem dX7_march_42 : decode cX7_march 42 = .ok (.bipush (-5), 2) := by decide +kernel
theorem dX7_march_44 : decode cX7_march 44 = .ok (.ireturn, 1) := by decide +kernel
theorem dX7_march_45 : decode cX7_march 45 = .ok (.aload_n 0, 1) := by decide +kernel
theorem dX7_march_46 : decode cX7_march 46 = .ok (.getfield 27, 3) := by decide +kernel
theorem dX7_march_49 : decode cX7_march 49 = .ok (.aload_n 0, 1) := by decide +kernel
theorem dX7_march_50 : decode cX7_march 50 = .ok (.getfield 12, 3) := by decide +kernel
theorem dX7_march_53 : decode cX7_march 53 = .ok (.invokevirtual 59, 3) := by decide +kernel
theorem dX7_march_56 : decode cX7_march 56 = .ok (.aload_n 0, 1) := by decide +kernel
theorem dX7_march_57 : decode cX7_march 57 = .ok (.getfield 12, 3) := by decide +kernel
theorem dX7_march_60 : decode cX7_march 60 = .ok (.getfield 119, 3) := by decide +kernel
theorem dX7_march_63 : decode cX7_march 63 = .ok (.getfield 122, 3) := by decide +kernel
theorem dX7_march_66 : decode cX7_march 66 = .ok (.istore_n 2, 1) := by decide +kernel
theorem dX7_march_67 : decode cX7_march 67 = .ok (.aload_n 0, 1) := by decide +kernel
theorem dX7_march_68 : decode cX7_march 68 = .ok (.getfield 12, 3) := by decide +kernel
theorem dX7_march_71 : decode cX7_march 71 = .ok (.getfield 119, 3) := by decide +kernel
theorem dX7_march_74 : decode cX7_march 74 = .ok (.aload_n 0, 1) := by decide +kernel
theorem dX7_march_75 : decode cX7_march 75 = .ok (.getfield 12, 3) := by decide +kernel
theorem dX7_march_78 : decode cX7_march 78 = .ok (.getfield 78, 3) := by decide +kernel
theorem dX7_march_81 : decode cX7_march 81 = .ok (.aload_n 0, 1) := by decide +kernel
theorem dX7_march_82 : decode cX7_march 82 = .ok (.getfield 12, 3) := by decide +kernel
theorem dX7_march_85 : decode cX7_march 85 = .ok (.getfield 95, 3) := by decide +kernel
theorem dX7_march_88 : decode cX7_march 88 = .ok (.aload_n 0, 1) := by decide +kernel
theorem dX7_march_89 : decode cX7_march 89 = .ok (.getfield 12, 3) := by decide +kernel
theorem dX7_march_92 : decode cX7_march 92 = .ok (.getfield 63, 3) := by decide +kernel
theorem dX7_march_95 : decode cX7_march 95 = .ok (.iload_n 1, 1) := by decide +kernel
theorem dX7_march_96 : decode cX7_march 96 = .ok (.invokevirtual 133, 3) := by decide +kernel
theorem dX7_march_99 : decode cX7_march 99 = .ok (.aload_n 0, 1) := by decide +kernel
theorem dX7_march_100 : decode cX7_march 100 = .ok (.getfield 12, 3) := by decide +kernel
theorem dX7_march_103 : decode cX7_march 103 = .ok (.getfield 119, 3) := by decide +kernel
theorem dX7_march_106 : decode cX7_march 106 = .ok (.getfield 122, 3) := by decide +kernel
theorem dX7_march_109 : decode cX7_march 109 = .ok (.iload_n 2, 1) := by decide +kernel
theorem dX7_march_110 : decode cX7_march 110 = .ok (.isub, 1) := by decide +kernel
theorem dX7_march_111 : decode cX7_march 111 = .ok (.ireturn, 1) := by decide +kernel
theorem dX7_line_0 : decode cX7_line 0 = .ok (.aload_n 0, 1) := by decide +kernel
theorem dX7_line_1 : decode cX7_line 1 = .ok (.getfield 12, 3) := by decide +kernel
theorem dX7_line_4 : decode cX7_line 4 = .ok (.getfield 78, 3) := by decide +kernel
theorem dX7_line_7 : decode cX7_line 7 = .ok (.iload_n 1, 1) := by decide +kernel
theorem dX7_line_8 : decode cX7_line 8 = .ok (.invokevirtual 137, 3) := by decide +kernel
theorem dX7_line_11 : decode cX7_line 11 = .ok (.ifCond .ne 5, 3) := by decide +kernel
theorem dX7_line_14 : decode cX7_line 14 = .ok (.iconst (-1), 1) := by decide +kernel
theorem dX7_line_15 : decode cX7_line 15 = .ok (.ireturn, 1) := by decide +kernel
theorem dX7_line_16 : decode cX7_line 16 = .ok (.aload_n 0, 1) := by decide +kernel
theorem dX7_line_17 : decode cX7_line 17 = .ok (.getfield 12, 3) := by decide +kernel
theorem dX7_line_20 : decode cX7_line 20 = .ok (.getfield 78, 3) := by decide +kernel
theorem dX7_line_23 : decode cX7_line 23 = .ok (.iload_n 1, 1) := by decide +kernel
theorem dX7_line_24 : decode cX7_line 24 = .ok (.invokevirtual 140, 3) := by decide +kernel
theorem dX7_line_27 : decode cX7_line 27 = .ok (.istore_n 3, 1) := by decide +kernel
theorem dX7_line_28 : decode cX7_line 28 = .ok (.aload_n 0, 1) := by decide +kernel
theorem dX7_line_29 : decode cX7_line 29 = .ok (.getfield 12, 3) := by decide +kernel
theorem dX7_line_32 : decode cX7_line 32 = .ok (.getfield 78, 3) := by decide +kernel
theorem dX7_line_35 : decode cX7_line 35 = .ok (.iload_n 1, 1) := by decide +kernel
theorem dX7_line_36 : decode cX7_line 36 = .ok (.invokevirtual 143, 3) := by decide +kernel
theorem dX7_line_39 : decode cX7_line 39 = .ok (.istore 4, 2) := by decide +kernel
theorem dX7_line_41 : decode cX7_line 41 = .ok (.iload_n 2, 1) := by decide +kernel
theorem dX7_line_42 : decode cX7_line 42 = .ok (.tableswitch 64 0 3 #[30, 42, 44, 47], 30) := by decide +kernel
theorem dX7_line_72 : decode cX7_line 72 = .ok (.aload_n 0, 1) := by decide +kernel
theorem dX7_line_73 : decode cX7_line 73 = .ok (.getfield 12, 3) := by decide +kernel
theorem dX7_line_76 : decode cX7_line 76 = .ok (.getfield 78, 3) := by decide +kernel
theorem dX7_line_79 : decode cX7_line 79 = .ok (.iload_n 1, 1) := by decide +kernel
theorem dX7_line_80 : decode cX7_line 80 = .ok (.invokevirtual 146, 3) := by decide +kernel
theorem dX7_line_83 : decode cX7_line 83 = .ok (.ireturn, 1) := by decide +kernel
theorem dX7_line_84 : decode cX7_line 84 = .ok (.iload_n 3, 1) := by decide +kernel
theorem dX7_line_85 : decode cX7_line 85 = .ok (.ireturn, 1) := by decide +kernel
theorem dX7_line_86 : decode cX7_line 86 = .ok (.iload 4, 2) := by decide +kernel
theorem dX7_line_88 : decode cX7_line 88 = .ok (.ireturn, 1) := by decide +kernel
theorem dX7_line_89 : decode cX7_line 89 = .ok (.iload_n 3, 1) := by decide +kernel
theorem dX7_line_90 : decode cX7_line 90 = .ok (.iload 4, 2) := by decide +kernel
theorem dX7_line_92 : decode cX7_line 92 = .ok (.aload_n 0, 1) := by decide +kernel
theorem dX7_line_93 : decode cX7_line 93 = .ok (.getfield 12, 3) := by decide +kernel
theorem dX7_line_96 : decode cX7_line 96 = .ok (.getfield 63, 3) := by decide +kernel
theorem dX7_line_99 : decode cX7_line 99 = .ok (.iconst 1, 1) := by decide +kernel
theorem dX7_line_100 : decode cX7_line 100 = .ok (.invokevirtual 66, 3) := by decide +kernel
theorem dX7_line_103 : decode cX7_line 103 = .ok (.imul, 1) := by decide +kernel
theorem dX7_line_104 : decode cX7_line 104 = .ok (.iadd, 1) := by decide +kernel
theorem dX7_line_105 : decode cX7_line 105 = .ok (.ireturn, 1) := by decide +kernel
theorem dX7_line_106 : decode cX7_line 106 = .ok (.bipush (-2), 2) := by decide +kernel
theorem dX7_line_108 : decode cX7_line 108 = .ok (.ireturn, 1) := by decide +kernel
theorem dX7_foot_0 : decode cX7_foot 0 = .ok (.aload_n 0, 1) := by decide +kernel
theorem dX7_foot_1 : decode cX7_foot 1 = .ok (.getfield 12, 3) := by decide +kernel
theorem dX7_foot_4 : decode cX7_foot 4 = .ok (.getfield 78, 3) := by decide +kernel
theorem dX7_foot_7 : decode cX7_foot 7 = .ok (.iload_n 1, 1) := by decide +kernel
theorem dX7_foot_8 : decode cX7_foot 8 = .ok (.iload_n 2, 1) := by decide +kernel
theorem dX7_foot_9 : decode cX7_foot 9 = .ok (.invokevirtual 149, 3) := by decide +kernel
theorem dX7_foot_12 : decode cX7_foot 12 = .ok (.ifCond .ne 5, 3) := by decide +kernel
theorem dX7_foot_15 : decode cX7_foot 15 = .ok (.iconst (-1), 1) := by decide +kernel
theorem dX7_foot_16 : decode cX7_foot 16 = .ok (.ireturn, 1) := by decide +kernel
theorem dX7_foot_17 : decode cX7_foot 17 = .ok (.iload_n 3, 1) := by decide +kernel
theorem dX7_foot_18 : decode cX7_foot 18 = .ok (.lookupswitch 60 #[(0, 26), (1, 39)], 26) := by decide +kernel
theorem dX7_foot_44 : decode cX7_foot 44 = .ok (.aload_n 0, 1) := by decide +kernel
theorem dX7_foot_45 : decode cX7_foot 45 = .ok (.getfield 12, 3) := by decide +kernel
theorem dX7_foot_48 : decode cX7_foot 48 = .ok (.getfield 78, 3) := by decide +kernel
theorem dX7_foot_51 : decode cX7_foot 51 = .ok (.iload_n 1, 1) := by decide +kernel
theorem dX7_foot_52 : decode cX7_foot 52 = .ok (.iload_n 2, 1) := by decide +kernel
theorem dX7_foot_53 : decode cX7_foot 53 = .ok (.invokevirtual 152, 3) := by decide +kernel
theorem dX7_foot_56 : decode cX7_foot 56 = .ok (.ireturn, 1) := by decide +kernel
theorem dX7_foot_57 : decode cX7_foot 57 = .ok (.aload_n 0, 1) := by decide +kernel
theorem dX7_foot_58 : decode cX7_foot 58 = .ok (.getfield 12, 3) := by decide +kernel
theorem dX7_foot_61 : decode cX7_foot 61 = .ok (.getfield 78, 3) := by decide +kernel
theorem dX7_foot_64 : decode cX7_foot 64 = .ok (.iload_n 1, 1) := by decide +kernel
theorem dX7_foot_65 : decode cX7_foot 65 = .ok (.iload_n 2, 1) := by decide +kernel
theorem dX7_foot_66 : decode cX7_foot 66 = .ok (.invokevirtual 156, 3) := by decide +kernel
theorem dX7_foot_69 : decode cX7_foot 69 = .ok (.ifCond .eq 7, 3) := by decide +kernel
theorem dX7_foot_72 : decode cX7_foot 72 = .ok (.iconst 1, 1) := by decide +kernel
theorem dX7_foot_73 : decode cX7_foot 73 = .ok (.goto 4, 3) := by decide +kernel
theorem dX7_foot_76 : decode cX7_foot 76 = .ok (.iconst 0, 1) := by decide +kernel
theorem dX7_foot_77 : decode cX7_foot 77 = .ok (.ireturn, 1) := by decide +kernel
theorem dX7_foot_78 : decode cX7_foot 78 = .ok (.bipush (-2), 2) := by decide +kernel
theorem dX7_foot_80 : decode cX7_foot 80 = .ok (.ireturn, 1) := by decide +kernel
theorem dX7_stretch_0 : decode cX7_stretch 0 = .ok (.aload_n 0, 1) := by decide +kernel
theorem dX7_stretch_1 : decode cX7_stretch 1 = .ok (.getfield 12, 3) := by decide +kernel
theorem dX7_stretch_4 : decode cX7_stretch 4 = .ok (.getfield 95, 3) := by decide +kernel
theorem dX7_stretch_7 : decode cX7_stretch 7 = .ok (.iload_n 1, 1) := by decide +kernel
theorem dX7_stretch_8 : decode cX7_stretch 8 = .ok (.invokevirtual 108, 3) := by decide +kernel
theorem dX7_stretch_11 : decode cX7_stretch 11 = .ok (.ifCond .ne 5, 3) := by decide +kernel
theorem dX7_stretch_14 : decode cX7_stretch 14 = .ok (.iconst (-1), 1) := by decide +kernel
theorem dX7_stretch_15 : decode cX7_stretch 15 = .ok (.ireturn, 1) := by decide +kernel
theorem dX7_stretch_16 : decode cX7_stretch 16 = .ok (.iload_n 2, 1) := by decide +kernel
theorem dX7_stretch_17 : decode cX7_stretch 17 = .ok (.tableswitch 100 0 3 #[31, 43, 57, 77], 31) := by decide +kernel
theorem dX7_stretch_48 : decode cX7_stretch 48 = .ok (.aload_n 0, 1) := by decide +kernel
theorem dX7_stretch_49 : decode cX7_stretch 49 = .ok (.getfield 12, 3) := by decide +kernel
theorem dX7_stretch_52 : decode cX7_stretch 52 = .ok (.getfield 95, 3) := by decide +kernel
theorem dX7_stretch_55 : decode cX7_stretch 55 = .ok (.iload_n 1, 1) := by decide +kernel
theorem dX7_stretch_56 : decode cX7_stretch 56 = .ok (.invokevirtual 112, 3) := by decide +kernel
theorem dX7_stretch_59 : decode cX7_stretch 59 = .ok (.ireturn, 1) := by decide +kernel
theorem dX7_stretch_60 : decode cX7_stretch 60 = .ok (.aload_n 0, 1) := by decide +kernel
theorem dX7_stretch_61 : decode cX7_stretch 61 = .ok (.getfield 12, 3) := by decide +kernel
theorem dX7_stretch_64 : decode cX7_stretch 64 = .ok (.getfield 95, 3) := by decide +kernel
theorem dX7_stretch_67 : decode cX7_stretch 67 = .ok (.iload_n 1, 1) := by decide +kernel
theorem dX7_stretch_68 : decode cX7_stretch 68 = .ok (.invokevirtual 159, 3) := by decide +kernel
theorem dX7_stretch_71 : decode cX7_stretch 71 = .ok (.iconst 3, 1) := by decide +kernel
theorem dX7_stretch_72 : decode cX7_stretch 72 = .ok (.iadd, 1) := by decide +kernel
theorem dX7_stretch_73 : decode cX7_stretch 73 = .ok (.ireturn, 1) := by decide +kernel
theorem dX7_stretch_74 : decode cX7_stretch 74 = .ok (.aload_n 0, 1) := by decide +kernel
theorem dX7_stretch_75 : decode cX7_stretch 75 = .ok (.getfield 12, 3) := by decide +kernel
theorem dX7_stretch_78 : decode cX7_stretch 78 = .ok (.getfield 95, 3) := by decide +kernel
theorem dX7_stretch_81 : decode cX7_stretch 81 = .ok (.iload_n 1, 1) := by decide +kernel
theorem dX7_stretch_82 : decode cX7_stretch 82 = .ok (.invokevirtual 162, 3) := by decide +kernel
theorem dX7_stretch_85 : decode cX7_stretch 85 = .ok (.ifCond .eq 7, 3) := by decide +kernel
theorem dX7_stretch_88 : decode cX7_stretch 88 = .ok (.iconst 1, 1) := by decide +kernel
theorem dX7_stretch_89 : decode cX7_stretch 89 = .ok (.goto 4, 3) := by decide +kernel
theorem dX7_stretch_92 : decode cX7_stretch 92 = .ok (.iconst 0, 1) := by decide +kernel
theorem dX7_stretch_93 : decode cX7_stretch 93 = .ok (.ireturn, 1) := by decide +kernel
theorem dX7_stretch_94 : decode cX7_stretch 94 = .ok (.aload_n 0, 1) := by decide +kernel
theorem dX7_stretch_95 : decode cX7_stretch 95 = .ok (.getfield 12, 3) := by decide +kernel
theorem dX7_stretch_98 : decode cX7_stretch 98 = .ok (.getfield 95, 3) := by decide +kernel
theorem dX7_stretch_101 : decode cX7_stretch 101 = .ok (.iload_n 1, 1) := by decide +kernel
theorem dX7_stretch_102 : decode cX7_stretch 102 = .ok (.aload_n 0, 1) := by decide +kernel
theorem dX7_stretch_103 : decode cX7_stretch 103 = .ok (.getfield 12, 3) := by decide +kernel
theorem dX7_stretch_106 : decode cX7_stretch 106 = .ok (.getfield 63, 3) := by decide +kernel
theorem dX7_stretch_109 : decode cX7_stretch 109 = .ok (.iconst 5, 1) := by decide +kernel
theorem dX7_stretch_110 : decode cX7_stretch 110 = .ok (.invokevirtual 66, 3) := by decide +kernel
theorem dX7_stretch_113 : decode cX7_stretch 113 = .ok (.invokevirtual 165, 3) := by decide +kernel
theorem dX7_stretch_116 : decode cX7_stretch 116 = .ok (.ireturn, 1) := by decide +kernel
theorem dX7_stretch_117 : decode cX7_stretch 117 = .ok (.bipush (-2), 2) := by decide +kernel
theorem dX7_stretch_119 : decode cX7_stretch 119 = .ok (.ireturn, 1) := by decide +kernel
theorem dX7_walk_0 : decode cX7_walk 0 = .ok (.iload_n 1, 1) := by decide +kernel
theorem dX7_walk_1 : decode cX7_walk 1 = .ok (.tableswitch 255 0 14 #[75, 86, 97, 108, 119, 130, 141, 152, 163, 174, 185, 196, 207, 218, 229], 75) := by decide +kernel
theorem dX7_walk_76 : decode cX7_walk 76 = .ok (.aload_n 0, 1) := by decide +kernel
theorem dX7_walk_77 : decode cX7_walk 77 = .ok (.getfield 12, 3) := by decide +kernel
theorem dX7_walk_80 : decode cX7_walk 80 = .ok (.getfield 119, 3) := by decide +kernel
theorem dX7_walk_83 : decode cX7_walk 83 = .ok (.getfield 122, 3) := by decide +kernel
theorem dX7_walk_86 : decode cX7_walk 86 = .ok (.ireturn, 1) := by decide +kernel
theorem dX7_walk_87 : decode cX7_walk 87 = .ok (.aload_n 0, 1) := by decide +kernel
theorem dX7_walk_88 : decode cX7_walk 88 = .ok (.getfield 12, 3) := by decide +kernel
theorem dX7_walk_91 : decode cX7_walk 91 = .ok (.getfield 119, 3) := by decide +kernel
theorem dX7_walk_94 : decode cX7_walk 94 = .ok (.getfield 168, 3) := by decide +kernel
theorem dX7_walk_97 : decode cX7_walk 97 = .ok (.ireturn, 1) := by decide +kernel
theorem dX7_walk_98 : decode cX7_walk 98 = .ok (.aload_n 0, 1) := by decide +kernel
theorem dX7_walk_99 : decode cX7_walk 99 = .ok (.getfield 12, 3) := by decide +kernel
theorem dX7_walk_102 : decode cX7_walk 102 = .ok (.getfield 119, 3) := by decide +kernel
theorem dX7_walk_105 : decode cX7_walk 105 = .ok (.getfield 171, 3) := by decide +kernel
theorem dX7_walk_108 : decode cX7_walk 108 = .ok (.ireturn, 1) := by decide +kernel
theorem dX7_walk_109 : decode cX7_walk 109 = .ok (.aload_n 0, 1) := by decide +kernel
theorem dX7_walk_110 : decode cX7_walk 110 = .ok (.getfield 12, 3) := by decide +kernel
theorem dX7_walk_113 : decode cX7_walk 113 = .ok (.getfield 119, 3) := by decide +kernel
theorem dX7_walk_116 : decode cX7_walk 116 = .ok (.getfield 174, 3) := by decide +kernel
theorem dX7_walk_119 : decode cX7_walk 119 = .ok (.ireturn, 1) := by decide +kernel
theorem dX7_walk_120 : decode cX7_walk 120 = .ok (.aload_n 0, 1) := by decide +kernel
theorem dX7_walk_121 : decode cX7_walk 121 = .ok (.getfield 12, 3) := by decide +kernel
theorem dX7_walk_124 : decode cX7_walk 124 = .ok (.getfield 119, 3) := by decide +kernel
theorem dX7_walk_127 : decode cX7_walk 127 = .ok (.getfield 177, 3) := by decide +kernel
theorem dX7_walk_130 : decode cX7_walk 130 = .ok (.ireturn, 1) := by decide +kernel
theorem dX7_walk_131 : decode cX7_walk 131 = .ok (.aload_n 0, 1) := by decide +kernel
theorem dX7_walk_132 : decode cX7_walk 132 = .ok (.getfield 12, 3) := by decide +kernel
theorem dX7_walk_135 : decode cX7_walk 135 = .ok (.getfield 119, 3) := by decide +kernel
theorem dX7_walk_138 : decode cX7_walk 138 = .ok (.getfield 180, 3) := by decide +kernel
theorem dX7_walk_141 : decode cX7_walk 141 = .ok (.ireturn, 1) := by decide +kernel
theorem dX7_walk_142 : decode cX7_walk 142 = .ok (.aload_n 0, 1) := by decide +kernel
theorem dX7_walk_143 : decode cX7_walk 143 = .ok (.getfield 12, 3) := by decide +kernel
theorem dX7_walk_146 : decode cX7_walk 146 = .ok (.getfield 119, 3) := by decide +kernel
theorem dX7_walk_149 : decode cX7_walk 149 = .ok (.getfield 183, 3) := by decide +kernel
theorem dX7_walk_152 : decode cX7_walk 152 = .ok (.ireturn, 1) := by decide +kernel
theorem dX7_walk_153 : decode cX7_walk 153 = .ok (.aload_n 0, 1) := by decide +kernel
theorem dX7_walk_154 : decode cX7_walk 154 = .ok (.getfield 12, 3) := by decide +kernel
theorem dX7_walk_157 : decode cX7_walk 157 = .ok (.getfield 119, 3) := by decide +kernel
theorem dX7_walk_160 : decode cX7_walk 160 = .ok (.getfield 186, 3) := by decide +kernel
theorem dX7_walk_163 : decode cX7_walk 163 = .ok (.ireturn, 1) := by decide +kernel
theorem dX7_walk_164 : decode cX7_walk 164 = .ok (.aload_n 0, 1) := by decide +kernel
theorem dX7_walk_165 : decode cX7_walk 165 = .ok (.getfield 12, 3) := by decide +kernel
theorem dX7_walk_168 : decode cX7_walk 168 = .ok (.getfield 119, 3) := by decide +kernel
theorem dX7_walk_171 : decode cX7_walk 171 = .ok (.getfield 189, 3) := by decide +kernel
theorem dX7_walk_174 : decode cX7_walk 174 = .ok (.ireturn, 1) := by decide +kernel
theorem dX7_walk_175 : decode cX7_walk 175 = .ok (.aload_n 0, 1) := by decide +kernel
theorem dX7_walk_176 : decode cX7_walk 176 = .ok (.getfield 12, 3) := by decide +kernel
theorem dX7_walk_179 : decode cX7_walk 179 = .ok (.getfield 119, 3) := by decide +kernel
theorem dX7_walk_182 : decode cX7_walk 182 = .ok (.getfield 192, 3) := by decide +kernel
theorem dX7_walk_185 : decode cX7_walk 185 = .ok (.ireturn, 1) := by decide +kernel
theorem dX7_walk_186 : decode cX7_walk 186 = .ok (.aload_n 0, 1) := by decide +kernel
theorem dX7_walk_187 : decode cX7_walk 187 = .ok (.getfield 12, 3) := by decide +kernel
theorem dX7_walk_190 : decode cX7_walk 190 = .ok (.getfield 119, 3) := by decide +kernel
theorem dX7_walk_193 : decode cX7_walk 193 = .ok (.getfield 195, 3) := by decide +kernel
theorem dX7_walk_196 : decode cX7_walk 196 = .ok (.ireturn, 1) := by decide +kernel
theorem dX7_walk_197 : decode cX7_walk 197 = .ok (.aload_n 0, 1) := by decide +kernel
theorem dX7_walk_198 : decode cX7_walk 198 = .ok (.getfield 12, 3) := by decide +kernel
theorem dX7_walk_201 : decode cX7_walk 201 = .ok (.getfield 119, 3) := by decide +kernel
theorem dX7_walk_204 : decode cX7_walk 204 = .ok (.getfield 198, 3) := by decide +kernel
theorem dX7_walk_207 : decode cX7_walk 207 = .ok (.ireturn, 1) := by decide +kernel
theorem dX7_walk_208 : decode cX7_walk 208 = .ok (.aload_n 0, 1) := by decide +kernel
theorem dX7_walk_209 : decode cX7_walk 209 = .ok (.getfield 12, 3) := by decide +kernel
theorem dX7_walk_212 : decode cX7_walk 212 = .ok (.getfield 119, 3) := by decide +kernel
theorem dX7_walk_215 : decode cX7_walk 215 = .ok (.getfield 201, 3) := by decide +kernel
theorem dX7_walk_218 : decode cX7_walk 218 = .ok (.ireturn, 1) := by decide +kernel
theorem dX7_walk_219 : decode cX7_walk 219 = .ok (.aload_n 0, 1) := by decide +kernel
theorem dX7_walk_220 : decode cX7_walk 220 = .ok (.getfield 12, 3) := by decide +kernel
theorem dX7_walk_223 : decode cX7_walk 223 = .ok (.getfield 119, 3) := by decide +kernel
theorem dX7_walk_226 : decode cX7_walk 226 = .ok (.getfield 204, 3) := by decide +kernel
theorem dX7_walk_229 : decode cX7_walk 229 = .ok (.ireturn, 1) := by decide +kernel
theorem dX7_walk_230 : decode cX7_walk 230 = .ok (.aload_n 0, 1) := by decide +kernel
theorem dX7_walk_231 : decode cX7_walk 231 = .ok (.getfield 12, 3) := by decide +kernel
theorem dX7_walk_234 : decode cX7_walk 234 = .ok (.getfield 119, 3) := by decide +kernel
theorem dX7_walk_237 : decode cX7_walk 237 = .ok (.aload_n 0, 1) := by decide +kernel
theorem dX7_walk_238 : decode cX7_walk 238 = .ok (.getfield 12, 3) := by decide +kernel
theorem dX7_walk_241 : decode cX7_walk 241 = .ok (.getfield 95, 3) := by decide +kernel
theorem dX7_walk_244 : decode cX7_walk 244 = .ok (.invokevirtual 129, 3) := by decide +kernel
theorem dX7_walk_247 : decode cX7_walk 247 = .ok (.ifCond .eq 7, 3) := by decide +kernel
theorem dX7_walk_250 : decode cX7_walk 250 = .ok (.iconst 1, 1) := by decide +kernel
theorem dX7_walk_251 : decode cX7_walk 251 = .ok (.goto 4, 3) := by decide +kernel
theorem dX7_walk_254 : decode cX7_walk 254 = .ok (.iconst 0, 1) := by decide +kernel
theorem dX7_walk_255 : decode cX7_walk 255 = .ok (.ireturn, 1) := by decide +kernel
theorem dX7_walk_256 : decode cX7_walk 256 = .ok (.bipush (-2), 2) := by decide +kernel
theorem dX7_walk_258 : decode cX7_walk 258 = .ok (.ireturn, 1) := by decide +kernel
theorem dX7_count_0 : decode cX7_count 0 = .ok (.iload_n 1, 1) := by decide +kernel
theorem dX7_count_1 : decode cX7_count 1 = .ok (.tableswitch 150 0 12 #[67, 67, 67, 67, 67, 67, 79, 90, 101, 112, 123, 134, 142], 67) := by decide +kernel
theorem dX7_count_68 : decode cX7_count 68 = .ok (.aload_n 0, 1) := by decide +kernel
theorem dX7_count_69 : decode cX7_count 69 = .ok (.getfield 12, 3) := by decide +kernel
theorem dX7_count_72 : decode cX7_count 72 = .ok (.getfield 63, 3) := by decide +kernel
theorem dX7_count_75 : decode cX7_count 75 = .ok (.iload_n 1, 1) := by decide +kernel
theorem dX7_count_76 : decode cX7_count 76 = .ok (.invokevirtual 66, 3) := by decide +kernel
theorem dX7_count_79 : decode cX7_count 79 = .ok (.ireturn, 1) := by decide +kernel
theorem dX7_count_80 : decode cX7_count 80 = .ok (.aload_n 0, 1) := by decide +kernel
theorem dX7_count_81 : decode cX7_count 81 = .ok (.getfield 12, 3) := by decide +kernel
theorem dX7_count_84 : decode cX7_count 84 = .ok (.getfield 78, 3) := by decide +kernel
theorem dX7_count_87 : decode cX7_count 87 = .ok (.getfield 89, 3) := by decide +kernel
theorem dX7_count_90 : decode cX7_count 90 = .ok (.ireturn, 1) := by decide +kernel
theorem dX7_count_91 : decode cX7_count 91 = .ok (.aload_n 0, 1) := by decide +kernel
theorem dX7_count_92 : decode cX7_count 92 = .ok (.getfield 12, 3) := by decide +kernel
theorem dX7_count_95 : decode cX7_count 95 = .ok (.getfield 78, 3) := by decide +kernel
theorem dX7_count_98 : decode cX7_count 98 = .ok (.invokevirtual 207, 3) := by decide +kernel
theorem dX7_count_101 : decode cX7_count 101 = .ok (.ireturn, 1) := by decide +kernel
theorem dX7_count_102 : decode cX7_count 102 = .ok (.aload_n 0, 1) := by decide +kernel
theorem dX7_count_103 : decode cX7_count 103 = .ok (.getfield 12, 3) := by decide +kernel
theorem dX7_count_106 : decode cX7_count 106 = .ok (.getfield 78, 3) := by decide +kernel
theorem dX7_count_109 : decode cX7_count 109 = .ok (.invokevirtual 210, 3) := by decide +kernel
theorem dX7_count_112 : decode cX7_count 112 = .ok (.ireturn, 1) := by decide +kernel
theorem dX7_count_113 : decode cX7_count 113 = .ok (.aload_n 0, 1) := by decide +kernel
theorem dX7_count_114 : decode cX7_count 114 = .ok (.getfield 12, 3) := by decide +kernel
theorem dX7_count_117 : decode cX7_count 117 = .ok (.getfield 95, 3) := by decide +kernel
theorem dX7_count_120 : decode cX7_count 120 = .ok (.getfield 99, 3) := by decide +kernel
theorem dX7_count_123 : decode cX7_count 123 = .ok (.ireturn, 1) := by decide +kernel
theorem dX7_count_124 : decode cX7_count 124 = .ok (.aload_n 0, 1) := by decide +kernel
theorem dX7_count_125 : decode cX7_count 125 = .ok (.getfield 12, 3) := by decide +kernel
theorem dX7_count_128 : decode cX7_count 128 = .ok (.getfield 95, 3) := by decide +kernel
theorem dX7_count_131 : decode cX7_count 131 = .ok (.invokevirtual 213, 3) := by decide +kernel
theorem dX7_count_134 : decode cX7_count 134 = .ok (.ireturn, 1) := by decide +kernel
theorem dX7_count_135 : decode cX7_count 135 = .ok (.aload_n 0, 1) := by decide +kernel
theorem dX7_count_136 : decode cX7_count 136 = .ok (.getfield 34, 3) := by decide +kernel
theorem dX7_count_139 : decode cX7_count 139 = .ok (.getfield 215, 3) := by decide +kernel
theorem dX7_count_142 : decode cX7_count 142 = .ok (.ireturn, 1) := by decide +kernel
theorem dX7_count_143 : decode cX7_count 143 = .ok (.aload_n 0, 1) := by decide +kernel
theorem dX7_count_144 : decode cX7_count 144 = .ok (.getfield 27, 3) := by decide +kernel
theorem dX7_count_147 : decode cX7_count 147 = .ok (.getfield 218, 3) := by decide +kernel
theorem dX7_count_150 : decode cX7_count 150 = .ok (.ireturn, 1) := by decide +kernel
theorem dX7_count_151 : decode cX7_count 151 = .ok (.bipush (-2), 2) := by decide +kernel
theorem dX7_count_153 : decode cX7_count 153 = .ok (.ireturn, 1) := by decide +kernel
theorem dX7_untilWalked_0 : decode cX7_untilWalked 0 = .ok (.iload_n 1, 1) := by decide +kernel
theorem dX7_untilWalked_1 : decode cX7_untilWalked 1 = .ok (.ifCond .lt 8, 3) := by decide +kernel
theorem dX7_untilWalked_4 : decode cX7_untilWalked 4 = .ok (.iload_n 1, 1) := by decide +kernel
theorem dX7_untilWalked_5 : decode cX7_untilWalked 5 = .ok (.iconst 3, 1) := by decide +kernel
theorem dX7_untilWalked_6 : decode cX7_untilWalked 6 = .ok (.if_icmp .le 6, 3) := by decide +kernel
theorem dX7_untilWalked_9 : decode cX7_untilWalked 9 = .ok (.bipush (-2), 2) := by decide +kernel
theorem dX7_untilWalked_11 : decode cX7_untilWalked 11 = .ok (.ireturn, 1) := by decide +kernel
theorem dX7_untilWalked_12 : decode cX7_untilWalked 12 = .ok (.aload_n 0, 1) := by decide +kernel
theorem dX7_untilWalked_13 : decode cX7_untilWalked 13 = .ok (.invokevirtual 125, 3) := by decide +kernel
theorem dX7_untilWalked_16 : decode cX7_untilWalked 16 = .ok (.ifCond .ne 6, 3) := by decide +kernel
theorem dX7_untilWalked_19 : decode cX7_untilWalked 19 = .ok (.bipush (-5), 2) := by decide +kernel
theorem dX7_untilWalked_21 : decode cX7_untilWalked 21 = .ok (.ireturn, 1) := by decide +kernel
theorem dX7_untilWalked_22 : decode cX7_untilWalked 22 = .ok (.aload_n 0, 1) := by decide +kernel
theorem dX7_untilWalked_23 : decode cX7_untilWalked 23 = .ok (.getfield 41, 3) := by decide +kernel
theorem dX7_untilWalked_26 : decode cX7_untilWalked 26 = .ok (.aload_n 0, 1) := by decide +kernel
theorem dX7_untilWalked_27 : decode cX7_untilWalked 27 = .ok (.getfield 12, 3) := by decide +kernel
theorem dX7_untilWalked_30 : decode cX7_untilWalked 30 = .ok (.getfield 119, 3) := by decide +kernel
theorem dX7_untilWalked_33 : decode cX7_untilWalked 33 = .ok (.invokevirtual 221, 3) := by decide +kernel
theorem dX7_untilWalked_36 : decode cX7_untilWalked 36 = .ok (.aload_n 0, 1) := by decide +kernel
theorem dX7_untilWalked_37 : decode cX7_untilWalked 37 = .ok (.getfield 41, 3) := by decide +kernel
theorem dX7_untilWalked_40 : decode cX7_untilWalked 40 = .ok (.aload_n 0, 1) := by decide +kernel
theorem dX7_untilWalked_41 : decode cX7_untilWalked 41 = .ok (.getfield 12, 3) := by decide +kernel
theorem dX7_untilWalked_44 : decode cX7_untilWalked 44 = .ok (.getfield 78, 3) := by decide +kernel
theorem dX7_untilWalked_47 : decode cX7_untilWalked 47 = .ok (.aload_n 0, 1) := by decide +kernel
theorem dX7_untilWalked_48 : decode cX7_untilWalked 48 = .ok (.getfield 12, 3) := by decide +kernel
theorem dX7_untilWalked_51 : decode cX7_untilWalked 51 = .ok (.getfield 95, 3) := by decide +kernel
theorem dX7_untilWalked_54 : decode cX7_untilWalked 54 = .ok (.aload_n 0, 1) := by decide +kernel
theorem dX7_untilWalked_55 : decode cX7_untilWalked 55 = .ok (.getfield 12, 3) := by decide +kernel
theorem dX7_untilWalked_58 : decode cX7_untilWalked 58 = .ok (.getfield 63, 3) := by decide +kernel
theorem dX7_untilWalked_61 : decode cX7_untilWalked 61 = .ok (.sipush 5000, 3) := by decide +kernel
theorem dX7_untilWalked_64 : decode cX7_untilWalked 64 = .ok (.invokevirtual 133, 3) := by decide +kernel
theorem dX7_untilWalked_67 : decode cX7_untilWalked 67 = .ok (.aload_n 0, 1) := by decide +kernel
theorem dX7_untilWalked_68 : decode cX7_untilWalked 68 = .ok (.getfield 41, 3) := by decide +kernel
theorem dX7_untilWalked_71 : decode cX7_untilWalked 71 = .ok (.aload_n 0, 1) := by decide +kernel
theorem dX7_untilWalked_72 : decode cX7_untilWalked 72 = .ok (.getfield 12, 3) := by decide +kernel
theorem dX7_untilWalked_75 : decode cX7_untilWalked 75 = .ok (.getfield 95, 3) := by decide +kernel
theorem dX7_untilWalked_78 : decode cX7_untilWalked 78 = .ok (.invokevirtual 129, 3) := by decide +kernel
theorem dX7_untilWalked_81 : decode cX7_untilWalked 81 = .ok (.ifCond .ne 6, 3) := by decide +kernel
theorem dX7_untilWalked_84 : decode cX7_untilWalked 84 = .ok (.bipush (-6), 2) := by decide +kernel
theorem dX7_untilWalked_86 : decode cX7_untilWalked 86 = .ok (.ireturn, 1) := by decide +kernel
theorem dX7_untilWalked_87 : decode cX7_untilWalked 87 = .ok (.iload_n 1, 1) := by decide +kernel
theorem dX7_untilWalked_88 : decode cX7_untilWalked 88 = .ok (.tableswitch 85 0 2 #[28, 47, 66], 28) := by decide +kernel
theorem dX7_untilWalked_116 : decode cX7_untilWalked 116 = .ok (.aload_n 0, 1) := by decide +kernel
theorem dX7_untilWalked_117 : decode cX7_untilWalked 117 = .ok (.getfield 41, 3) := by decide +kernel
theorem dX7_untilWalked_120 : decode cX7_untilWalked 120 = .ok (.getfield 122, 3) := by decide +kernel
theorem dX7_untilWalked_123 : decode cX7_untilWalked 123 = .ok (.aload_n 0, 1) := by decide +kernel
theorem dX7_untilWalked_124 : decode cX7_untilWalked 124 = .ok (.getfield 12, 3) := by decide +kernel
theorem dX7_untilWalked_127 : decode cX7_untilWalked 127 = .ok (.getfield 119, 3) := by decide +kernel
theorem dX7_untilWalked_130 : decode cX7_untilWalked 130 = .ok (.getfield 122, 3) := by decide +kernel
theorem dX7_untilWalked_133 : decode cX7_untilWalked 133 = .ok (.isub, 1) := by decide +kernel
theorem dX7_untilWalked_134 : decode cX7_untilWalked 134 = .ok (.ireturn, 1) := by decide +kernel
theorem dX7_untilWalked_135 : decode cX7_untilWalked 135 = .ok (.aload_n 0, 1) := by decide +kernel
theorem dX7_untilWalked_136 : decode cX7_untilWalked 136 = .ok (.getfield 41, 3) := by decide +kernel
theorem dX7_untilWalked_139 : decode cX7_untilWalked 139 = .ok (.getfield 168, 3) := by decide +kernel
theorem dX7_untilWalked_142 : decode cX7_untilWalked 142 = .ok (.aload_n 0, 1) := by decide +kernel
theorem dX7_untilWalked_143 : decode cX7_untilWalked 143 = .ok (.getfield 12, 3) := by decide +kernel
theorem dX7_untilWalked_146 : decode cX7_untilWalked 146 = .ok (.getfield 119, 3) := by decide +kernel
theorem dX7_untilWalked_149 : decode cX7_untilWalked 149 = .ok (.getfield 168, 3) := by decide +kernel
theorem dX7_untilWalked_152 : decode cX7_untilWalked 152 = .ok (.isub, 1) := by decide +kernel
theorem dX7_untilWalked_153 : decode cX7_untilWalked 153 = .ok (.ireturn, 1) := by decide +kernel
theorem dX7_untilWalked_154 : decode cX7_untilWalked 154 = .ok (.aload_n 0, 1) := by decide +kernel
theorem dX7_untilWalked_155 : decode cX7_untilWalked 155 = .ok (.getfield 41, 3) := by decide +kernel
theorem dX7_untilWalked_158 : decode cX7_untilWalked 158 = .ok (.getfield 198, 3) := by decide +kernel
theorem dX7_untilWalked_161 : decode cX7_untilWalked 161 = .ok (.aload_n 0, 1) := by decide +kernel
theorem dX7_untilWalked_162 : decode cX7_untilWalked 162 = .ok (.getfield 12, 3) := by decide +kernel
theorem dX7_untilWalked_165 : decode cX7_untilWalked 165 = .ok (.getfield 119, 3) := by decide +kernel
theorem dX7_untilWalked_168 : decode cX7_untilWalked 168 = .ok (.getfield 198, 3) := by decide +kernel
theorem dX7_untilWalked_171 : decode cX7_untilWalked 171 = .ok (.isub, 1) := by decide +kernel
theorem dX7_untilWalked_172 : decode cX7_untilWalked 172 = .ok (.ireturn, 1) := by decide +kernel
theorem dX7_untilWalked_173 : decode cX7_untilWalked 173 = .ok (.aload_n 0, 1) := by decide +kernel
theorem dX7_untilWalked_174 : decode cX7_untilWalked 174 = .ok (.getfield 41, 3) := by decide +kernel
theorem dX7_untilWalked_177 : decode cX7_untilWalked 177 = .ok (.getfield 201, 3) := by decide +kernel
theorem dX7_untilWalked_180 : decode cX7_untilWalked 180 = .ok (.aload_n 0, 1) := by decide +kernel
theorem dX7_untilWalked_181 : decode cX7_untilWalked 181 = .ok (.getfield 12, 3) := by decide +kernel
theorem dX7_untilWalked_184 : decode cX7_untilWalked 184 = .ok (.getfield 119, 3) := by decide +kernel
theorem dX7_untilWalked_187 : decode cX7_untilWalked 187 = .ok (.getfield 201, 3) := by decide +kernel
theorem dX7_untilWalked_190 : decode cX7_untilWalked 190 = .ok (.isub, 1) := by decide +kernel
theorem dX7_untilWalked_191 : decode cX7_untilWalked 191 = .ok (.ireturn, 1) := by decide +kernel
theorem dX7_together_0 : decode cX7_together 0 = .ok (.aload_n 0, 1) := by decide +kernel
theorem dX7_together_1 : decode cX7_together 1 = .ok (.invokevirtual 125, 3) := by decide +kernel
theorem dX7_together_4 : decode cX7_together 4 = .ok (.ifCond .ne 6, 3) := by decide +kernel
theorem dX7_together_7 : decode cX7_together 7 = .ok (.bipush (-5), 2) := by decide +kernel
theorem dX7_together_9 : decode cX7_together 9 = .ok (.ireturn, 1) := by decide +kernel
theorem dX7_together_10 : decode cX7_together 10 = .ok (.aload_n 0, 1) := by decide +kernel
theorem dX7_together_11 : decode cX7_together 11 = .ok (.getfield 41, 3) := by decide +kernel
theorem dX7_together_14 : decode cX7_together 14 = .ok (.aload_n 0, 1) := by decide +kernel
theorem dX7_together_15 : decode cX7_together 15 = .ok (.getfield 12, 3) := by decide +kernel
theorem dX7_together_18 : decode cX7_together 18 = .ok (.getfield 119, 3) := by decide +kernel
theorem dX7_together_21 : decode cX7_together 21 = .ok (.invokevirtual 221, 3) := by decide +kernel
theorem dX7_together_24 : decode cX7_together 24 = .ok (.iconst 1, 1) := by decide +kernel
theorem dX7_together_25 : decode cX7_together 25 = .ok (.istore_n 1, 1) := by decide +kernel
theorem dX7_together_26 : decode cX7_together 26 = .ok (.iload_n 1, 1) := by decide +kernel
theorem dX7_together_27 : decode cX7_together 27 = .ok (.sipush 5000, 3) := by decide +kernel
theorem dX7_together_30 : decode cX7_together 30 = .ok (.if_icmp .gt 94, 3) := by decide +kernel
theorem dX7_together_33 : decode cX7_together 33 = .ok (.aload_n 0, 1) := by decide +kernel
theorem dX7_together_34 : decode cX7_together 34 = .ok (.getfield 41, 3) := by decide +kernel
theorem dX7_together_37 : decode cX7_together 37 = .ok (.aload_n 0, 1) := by decide +kernel
theorem dX7_together_38 : decode cX7_together 38 = .ok (.getfield 12, 3) := by decide +kernel
theorem dX7_together_41 : decode cX7_together 41 = .ok (.getfield 95, 3) := by decide +kernel
theorem dX7_together_44 : decode cX7_together 44 = .ok (.invokevirtual 129, 3) := by decide +kernel
theorem dX7_together_47 : decode cX7_together 47 = .ok (.ifCond .ne 77, 3) := by decide +kernel
theorem dX7_together_50 : decode cX7_together 50 = .ok (.aload_n 0, 1) := by decide +kernel
theorem dX7_together_51 : decode cX7_together 51 = .ok (.getfield 41, 3) := by decide +kernel
theorem dX7_together_54 : decode cX7_together 54 = .ok (.getfield 201, 3) := by decide +kernel
theorem dX7_together_57 : decode cX7_together 57 = .ok (.istore_n 2, 1) := by decide +kernel
theorem dX7_together_58 : decode cX7_together 58 = .ok (.aload_n 0, 1) := by decide +kernel
theorem dX7_together_59 : decode cX7_together 59 = .ok (.getfield 41, 3) := by decide +kernel
theorem dX7_together_62 : decode cX7_together 62 = .ok (.getfield 180, 3) := by decide +kernel
theorem dX7_together_65 : decode cX7_together 65 = .ok (.istore_n 3, 1) := by decide +kernel
theorem dX7_together_66 : decode cX7_together 66 = .ok (.aload_n 0, 1) := by decide +kernel
theorem dX7_together_67 : decode cX7_together 67 = .ok (.getfield 41, 3) := by decide +kernel
theorem dX7_together_70 : decode cX7_together 70 = .ok (.aload_n 0, 1) := by decide +kernel
theorem dX7_together_71 : decode cX7_together 71 = .ok (.getfield 12, 3) := by decide +kernel
theorem dX7_together_74 : decode cX7_together 74 = .ok (.getfield 78, 3) := by decide +kernel
theorem dX7_together_77 : decode cX7_together 77 = .ok (.aload_n 0, 1) := by decide +kernel
theorem dX7_together_78 : decode cX7_together 78 = .ok (.getfield 12, 3) := by decide +kernel
theorem dX7_together_81 : decode cX7_together 81 = .ok (.getfield 95, 3) := by decide +kernel
theorem dX7_together_84 : decode cX7_together 84 = .ok (.aload_n 0, 1) := by decide +kernel
theorem dX7_together_85 : decode cX7_together 85 = .ok (.getfield 12, 3) := by decide +kernel
theorem dX7_together_88 : decode cX7_together 88 = .ok (.getfield 63, 3) := by decide +kernel
theorem dX7_together_91 : decode cX7_together 91 = .ok (.invokevirtual 225, 3) := by decide +kernel
theorem dX7_together_94 : decode cX7_together 94 = .ok (.aload_n 0, 1) := by decide +kernel
theorem dX7_together_95 : decode cX7_together 95 = .ok (.getfield 41, 3) := by decide +kernel
theorem dX7_together_98 : decode cX7_together 98 = .ok (.getfield 201, 3) := by decide +kernel
theorem dX7_together_101 : decode cX7_together 101 = .ok (.iload_n 2, 1) := by decide +kernel
theorem dX7_together_102 : decode cX7_together 102 = .ok (.if_icmp .le 16, 3) := by decide +kernel
theorem dX7_together_105 : decode cX7_together 105 = .ok (.aload_n 0, 1) := by decide +kernel
theorem dX7_together_106 : decode cX7_together 106 = .ok (.getfield 41, 3) := by decide +kernel
theorem dX7_together_109 : decode cX7_together 109 = .ok (.getfield 180, 3) := by decide +kernel
theorem dX7_together_112 : decode cX7_together 112 = .ok (.iload_n 3, 1) := by decide +kernel
theorem dX7_together_113 : decode cX7_together 113 = .ok (.if_icmp .le 5, 3) := by decide +kernel
theorem dX7_together_116 : decode cX7_together 116 = .ok (.iload_n 1, 1) := by decide +kernel
theorem dX7_together_117 : decode cX7_together 117 = .ok (.ireturn, 1) := by decide +kernel
theorem dX7_together_118 : decode cX7_together 118 = .ok (.iinc 1 1, 3) := by decide +kernel
theorem dX7_together_121 : decode cX7_together 121 = .ok (.goto (-95), 3) := by decide +kernel
theorem dX7_together_124 : decode cX7_together 124 = .ok (.bipush (-6), 2) := by decide +kernel
theorem dX7_together_126 : decode cX7_together 126 = .ok (.ireturn, 1) := by decide +kernel
theorem dX7_meets_0 : decode cX7_meets 0 = .ok (.aload_n 0, 1) := by decide +kernel
theorem dX7_meets_1 : decode cX7_meets 1 = .ok (.getfield 12, 3) := by decide +kernel
theorem dX7_meets_4 : decode cX7_meets 4 = .ok (.getfield 95, 3) := by decide +kernel
theorem dX7_meets_7 : decode cX7_meets 7 = .ok (.iload_n 1, 1) := by decide +kernel
theorem dX7_meets_8 : decode cX7_meets 8 = .ok (.invokevirtual 108, 3) := by decide +kernel
theorem dX7_meets_11 : decode cX7_meets 11 = .ok (.ifCond .ne 5, 3) := by decide +kernel
theorem dX7_meets_14 : decode cX7_meets 14 = .ok (.iconst (-1), 1) := by decide +kernel
theorem dX7_meets_15 : decode cX7_meets 15 = .ok (.ireturn, 1) := by decide +kernel
theorem dX7_meets_16 : decode cX7_meets 16 = .ok (.iload_n 2, 1) := by decide +kernel
theorem dX7_meets_17 : decode cX7_meets 17 = .ok (.ifCond .eq 11, 3) := by decide +kernel
theorem dX7_meets_20 : decode cX7_meets 20 = .ok (.iload_n 2, 1) := by decide +kernel
theorem dX7_meets_21 : decode cX7_meets 21 = .ok (.iconst 1, 1) := by decide +kernel
theorem dX7_meets_22 : decode cX7_meets 22 = .ok (.if_icmp .eq 6, 3) := by decide +kernel
theorem dX7_meets_25 : decode cX7_meets 25 = .ok (.bipush (-2), 2) := by decide +kernel
theorem dX7_meets_27 : decode cX7_meets 27 = .ok (.ireturn, 1) := by decide +kernel
theorem dX7_meets_28 : decode cX7_meets 28 = .ok (.aload_n 0, 1) := by decide +kernel
theorem dX7_meets_29 : decode cX7_meets 29 = .ok (.getfield 12, 3) := by decide +kernel
theorem dX7_meets_32 : decode cX7_meets 32 = .ok (.getfield 78, 3) := by decide +kernel
theorem dX7_meets_35 : decode cX7_meets 35 = .ok (.getfield 89, 3) := by decide +kernel
theorem dX7_meets_38 : decode cX7_meets 38 = .ok (.ifCond .ne 6, 3) := by decide +kernel
theorem dX7_meets_41 : decode cX7_meets 41 = .ok (.bipush (-5), 2) := by decide +kernel
theorem dX7_meets_43 : decode cX7_meets 43 = .ok (.ireturn, 1) := by decide +kernel
theorem dX7_meets_44 : decode cX7_meets 44 = .ok (.aload_n 0, 1) := by decide +kernel
theorem dX7_meets_45 : decode cX7_meets 45 = .ok (.getfield 12, 3) := by decide +kernel
theorem dX7_meets_48 : decode cX7_meets 48 = .ok (.getfield 95, 3) := by decide +kernel
theorem dX7_meets_51 : decode cX7_meets 51 = .ok (.iload_n 1, 1) := by decide +kernel
theorem dX7_meets_52 : decode cX7_meets 52 = .ok (.invokevirtual 112, 3) := by decide +kernel
theorem dX7_meets_55 : decode cX7_meets 55 = .ok (.istore_n 3, 1) := by decide +kernel
theorem dX7_meets_56 : decode cX7_meets 56 = .ok (.aload_n 0, 1) := by decide +kernel
theorem dX7_meets_57 : decode cX7_meets 57 = .ok (.getfield 12, 3) := by decide +kernel
theorem dX7_meets_60 : decode cX7_meets 60 = .ok (.getfield 78, 3) := by decide +kernel
theorem dX7_meets_63 : decode cX7_meets 63 = .ok (.invokevirtual 207, 3) := by decide +kernel
theorem dX7_meets_66 : decode cX7_meets 66 = .ok (.istore 4, 2) := by decide +kernel
theorem dX7_meets_68 : decode cX7_meets 68 = .ok (.iload_n 2, 1) := by decide +kernel
theorem dX7_meets_69 : decode cX7_meets 69 = .ok (.ifCond .ne 12, 3) := by decide +kernel
theorem dX7_meets_72 : decode cX7_meets 72 = .ok (.iload 4, 2) := by decide +kernel
theorem dX7_meets_74 : decode cX7_meets 74 = .ok (.iload_n 3, 1) := by decide +kernel
theorem dX7_meets_75 : decode cX7_meets 75 = .ok (.invokestatic 229, 3) := by decide +kernel
theorem dX7_meets_78 : decode cX7_meets 78 = .ok (.goto 9, 3) := by decide +kernel
theorem dX7_meets_81 : decode cX7_meets 81 = .ok (.iload 4, 2) := by decide +kernel
theorem dX7_meets_83 : decode cX7_meets 83 = .ok (.iload_n 3, 1) := by decide +kernel
theorem dX7_meets_84 : decode cX7_meets 84 = .ok (.invokestatic 232, 3) := by decide +kernel
theorem dX7_meets_87 : decode cX7_meets 87 = .ok (.ireturn, 1) := by decide +kernel
theorem dX7_leastBreath_0 : decode cX7_leastBreath 0 = .ok (.aload_n 0, 1) := by decide +kernel
theorem dX7_leastBreath_1 : decode cX7_leastBreath 1 = .ok (.invokevirtual 125, 3) := by decide +kernel
theorem dX7_leastBreath_4 : decode cX7_leastBreath 4 = .ok (.ifCond .ne 6, 3) := by decide +kernel
theorem dX7_leastBreath_7 : decode cX7_leastBreath 7 = .ok (.bipush (-5), 2) := by decide +kernel
theorem dX7_leastBreath_9 : decode cX7_leastBreath 9 = .ok (.ireturn, 1) := by decide +kernel
theorem dX7_leastBreath_10 : decode cX7_leastBreath 10 = .ok (.aload_n 0, 1) := by decide +kernel
theorem dX7_leastBreath_11 : decode cX7_leastBreath 11 = .ok (.getfield 48, 3) := by decide +kernel
theorem dX7_leastBreath_14 : decode cX7_leastBreath 14 = .ok (.aload_n 0, 1) := by decide +kernel
theorem dX7_leastBreath_15 : decode cX7_leastBreath 15 = .ok (.getfield 12, 3) := by decide +kernel
theorem dX7_leastBreath_18 : decode cX7_leastBreath 18 = .ok (.getfield 63, 3) := by decide +kernel
theorem dX7_leastBreath_21 : decode cX7_leastBreath 21 = .ok (.invokevirtual 235, 3) := by decide +kernel
theorem dX7_leastBreath_24 : decode cX7_leastBreath 24 = .ok (.aload_n 0, 1) := by decide +kernel
theorem dX7_leastBreath_25 : decode cX7_leastBreath 25 = .ok (.getfield 48, 3) := by decide +kernel
theorem dX7_leastBreath_28 : decode cX7_leastBreath 28 = .ok (.iconst 4, 1) := by decide +kernel
theorem dX7_leastBreath_29 : decode cX7_leastBreath 29 = .ok (.ldc 238, 2) := by decide +kernel
theorem dX7_leastBreath_31 : decode cX7_leastBreath 31 = .ok (.invokevirtual 70, 3) := by decide +kernel
theorem dX7_leastBreath_34 : decode cX7_leastBreath 34 = .ok (.aload_n 0, 1) := by decide +kernel
theorem dX7_leastBreath_35 : decode cX7_leastBreath 35 = .ok (.getfield 41, 3) := by decide +kernel
theorem dX7_leastBreath_38 : decode cX7_leastBreath 38 = .ok (.ldc 238, 2) := by decide +kernel
theorem dX7_leastBreath_40 : decode cX7_leastBreath 40 = .ok (.invokevirtual 239, 3) := by decide +kernel
theorem dX7_leastBreath_43 : decode cX7_leastBreath 43 = .ok (.ldc 238, 2) := by decide +kernel
theorem dX7_leastBreath_45 : decode cX7_leastBreath 45 = .ok (.istore_n 1, 1) := by decide +kernel
theorem dX7_leastBreath_46 : decode cX7_leastBreath 46 = .ok (.iconst 0, 1) := by decide +kernel
theorem dX7_leastBreath_47 : decode cX7_leastBreath 47 = .ok (.istore_n 2, 1) := by decide +kernel
theorem dX7_leastBreath_48 : decode cX7_leastBreath 48 = .ok (.iload_n 2, 1) := by decide +kernel
theorem dX7_leastBreath_49 : decode cX7_leastBreath 49 = .ok (.sipush 5000, 3) := by decide +kernel
theorem dX7_leastBreath_52 : decode cX7_leastBreath 52 = .ok (.if_icmp .ge 63, 3) := by decide +kernel
theorem dX7_leastBreath_55 : decode cX7_leastBreath 55 = .ok (.aload_n 0, 1) := by decide +kernel
theorem dX7_leastBreath_56 : decode cX7_leastBreath 56 = .ok (.getfield 41, 3) := by decide +kernel
theorem dX7_leastBreath_59 : decode cX7_leastBreath 59 = .ok (.aload_n 0, 1) := by decide +kernel
theorem dX7_leastBreath_60 : decode cX7_leastBreath 60 = .ok (.getfield 12, 3) := by decide +kernel
theorem dX7_leastBreath_63 : decode cX7_leastBreath 63 = .ok (.getfield 95, 3) := by decide +kernel
theorem dX7_leastBreath_66 : decode cX7_leastBreath 66 = .ok (.invokevirtual 129, 3) := by decide +kernel
theorem dX7_leastBreath_69 : decode cX7_leastBreath 69 = .ok (.ifCond .ne 46, 3) := by decide +kernel
theorem dX7_leastBreath_72 : decode cX7_leastBreath 72 = .ok (.aload_n 0, 1) := by decide +kernel
theorem dX7_leastBreath_73 : decode cX7_leastBreath 73 = .ok (.getfield 41, 3) := by decide +kernel
theorem dX7_leastBreath_76 : decode cX7_leastBreath 76 = .ok (.aload_n 0, 1) := by decide +kernel
theorem dX7_leastBreath_77 : decode cX7_leastBreath 77 = .ok (.getfield 12, 3) := by decide +kernel
theorem dX7_leastBreath_80 : decode cX7_leastBreath 80 = .ok (.getfield 78, 3) := by decide +kernel
theorem dX7_leastBreath_83 : decode cX7_leastBreath 83 = .ok (.aload_n 0, 1) := by decide +kernel
theorem dX7_leastBreath_84 : decode cX7_leastBreath 84 = .ok (.getfield 12, 3) := by decide +kernel
theorem dX7_leastBreath_87 : decode cX7_leastBreath 87 = .ok (.getfield 95, 3) := by decide +kernel
theorem dX7_leastBreath_90 : decode cX7_leastBreath 90 = .ok (.aload_n 0, 1) := by decide +kernel
theorem dX7_leastBreath_91 : decode cX7_leastBreath 91 = .ok (.getfield 48, 3) := by decide +kernel
theorem dX7_leastBreath_94 : decode cX7_leastBreath 94 = .ok (.invokevirtual 225, 3) := by decide +kernel
theorem dX7_leastBreath_97 : decode cX7_leastBreath 97 = .ok (.iload_n 1, 1) := by decide +kernel
theorem dX7_leastBreath_98 : decode cX7_leastBreath 98 = .ok (.aload_n 0, 1) := by decide +kernel
theorem dX7_leastBreath_99 : decode cX7_leastBreath 99 = .ok (.getfield 41, 3) := by decide +kernel
theorem dX7_leastBreath_102 : decode cX7_leastBreath 102 = .ok (.getfield 186, 3) := by decide +kernel
theorem dX7_leastBreath_105 : decode cX7_leastBreath 105 = .ok (.invokestatic 242, 3) := by decide +kernel
theorem dX7_leastBreath_108 : decode cX7_leastBreath 108 = .ok (.istore_n 1, 1) := by decide +kernel
theorem dX7_leastBreath_109 : decode cX7_leastBreath 109 = .ok (.iinc 2 1, 3) := by decide +kernel
theorem dX7_leastBreath_112 : decode cX7_leastBreath 112 = .ok (.goto (-64), 3) := by decide +kernel
theorem dX7_leastBreath_115 : decode cX7_leastBreath 115 = .ok (.getstatic 247, 3) := by decide +kernel
theorem dX7_leastBreath_118 : decode cX7_leastBreath 118 = .ok (.iconst 4, 1) := by decide +kernel
theorem dX7_leastBreath_119 : decode cX7_leastBreath 119 = .ok (.iaload, 1) := by decide +kernel
theorem dX7_leastBreath_120 : decode cX7_leastBreath 120 = .ok (.ldc 238, 2) := by decide +kernel
theorem dX7_leastBreath_122 : decode cX7_leastBreath 122 = .ok (.iload_n 1, 1) := by decide +kernel
theorem dX7_leastBreath_123 : decode cX7_leastBreath 123 = .ok (.isub, 1) := by decide +kernel
theorem dX7_leastBreath_124 : decode cX7_leastBreath 124 = .ok (.invokestatic 251, 3) := by decide +kernel
theorem dX7_leastBreath_127 : decode cX7_leastBreath 127 = .ok (.istore_n 2, 1) := by decide +kernel
theorem dX7_leastBreath_128 : decode cX7_leastBreath 128 = .ok (.aload_n 0, 1) := by decide +kernel
theorem dX7_leastBreath_129 : decode cX7_leastBreath 129 = .ok (.getfield 41, 3) := by decide +kernel
theorem dX7_leastBreath_132 : decode cX7_leastBreath 132 = .ok (.aload_n 0, 1) := by decide +kernel
theorem dX7_leastBreath_133 : decode cX7_leastBreath 133 = .ok (.getfield 12, 3) := by decide +kernel
theorem dX7_leastBreath_136 : decode cX7_leastBreath 136 = .ok (.getfield 95, 3) := by decide +kernel
theorem dX7_leastBreath_139 : decode cX7_leastBreath 139 = .ok (.invokevirtual 129, 3) := by decide +kernel
theorem dX7_leastBreath_142 : decode cX7_leastBreath 142 = .ok (.ifCond .eq 12, 3) := by decide +kernel
theorem dX7_leastBreath_145 : decode cX7_leastBreath 145 = .ok (.iload_n 2, 1) := by decide +kernel
theorem dX7_leastBreath_146 : decode cX7_leastBreath 146 = .ok (.getstatic 254, 3) := by decide +kernel
theorem dX7_leastBreath_149 : decode cX7_leastBreath 149 = .ok (.iconst 4, 1) := by decide +kernel
theorem dX7_leastBreath_150 : decode cX7_leastBreath 150 = .ok (.iaload, 1) := by decide +kernel
theorem dX7_leastBreath_151 : decode cX7_leastBreath 151 = .ok (.if_icmp .le 6, 3) := by decide +kernel
theorem dX7_leastBreath_154 : decode cX7_leastBreath 154 = .ok (.bipush (-6), 2) := by decide +kernel
theorem dX7_leastBreath_156 : decode cX7_leastBreath 156 = .ok (.ireturn, 1) := by decide +kernel
theorem dX7_leastBreath_157 : decode cX7_leastBreath 157 = .ok (.iload_n 2, 1) := by decide +kernel
theorem dX7_leastBreath_158 : decode cX7_leastBreath 158 = .ok (.ireturn, 1) := by decide +kernel
theorem dX7_bestPause_0 : decode cX7_bestPause 0 = .ok (.aload_n 0, 1) := by decide +kernel
theorem dX7_bestPause_1 : decode cX7_bestPause 1 = .ok (.invokevirtual 125, 3) := by decide +kernel
theorem dX7_bestPause_4 : decode cX7_bestPause 4 = .ok (.ifCond .ne 6, 3) := by decide +kernel
theorem dX7_bestPause_7 : decode cX7_bestPause 7 = .ok (.bipush (-5), 2) := by decide +kernel
theorem dX7_bestPause_9 : decode cX7_bestPause 9 = .ok (.ireturn, 1) := by decide +kernel
theorem dX7_bestPause_10 : decode cX7_bestPause 10 = .ok (.aload_n 0, 1) := by decide +kernel
theorem dX7_bestPause_11 : decode cX7_bestPause 11 = .ok (.getfield 48, 3) := by decide +kernel
theorem dX7_bestPause_14 : decode cX7_bestPause 14 = .ok (.aload_n 0, 1) := by decide +kernel
theorem dX7_bestPause_15 : decode cX7_bestPause 15 = .ok (.getfield 12, 3) := by decide +kernel
theorem dX7_bestPause_18 : decode cX7_bestPause 18 = .ok (.getfield 63, 3) := by decide +kernel
theorem dX7_bestPause_21 : decode cX7_bestPause 21 = .ok (.invokevirtual 235, 3) := by decide +kernel
theorem dX7_bestPause_24 : decode cX7_bestPause 24 = .ok (.bipush (-6), 2) := by decide +kernel
theorem dX7_bestPause_26 : decode cX7_bestPause 26 = .ok (.istore_n 1, 1) := by decide +kernel
theorem dX7_bestPause_27 : decode cX7_bestPause 27 = .ok (.sipush 5000, 3) := by decide +kernel
theorem dX7_bestPause_30 : decode cX7_bestPause 30 = .ok (.istore_n 2, 1) := by decide +kernel
theorem dX7_bestPause_31 : decode cX7_bestPause 31 = .ok (.getstatic 247, 3) := by decide +kernel
theorem dX7_bestPause_34 : decode cX7_bestPause 34 = .ok (.iconst 1, 1) := by decide +kernel
theorem dX7_bestPause_35 : decode cX7_bestPause 35 = .ok (.iaload, 1) := by decide +kernel
theorem dX7_bestPause_36 : decode cX7_bestPause 36 = .ok (.istore_n 3, 1) := by decide +kernel
theorem dX7_bestPause_37 : decode cX7_bestPause 37 = .ok (.iload_n 3, 1) := by decide +kernel
theorem dX7_bestPause_38 : decode cX7_bestPause 38 = .ok (.getstatic 254, 3) := by decide +kernel
theorem dX7_bestPause_41 : decode cX7_bestPause 41 = .ok (.iconst 1, 1) := by decide +kernel
theorem dX7_bestPause_42 : decode cX7_bestPause 42 = .ok (.iaload, 1) := by decide +kernel
theorem dX7_bestPause_43 : decode cX7_bestPause 43 = .ok (.if_icmp .gt 91, 3) := by decide +kernel
theorem dX7_bestPause_46 : decode cX7_bestPause 46 = .ok (.aload_n 0, 1) := by decide +kernel
theorem dX7_bestPause_47 : decode cX7_bestPause 47 = .ok (.getfield 48, 3) := by decide +kernel
theorem dX7_bestPause_50 : decode cX7_bestPause 50 = .ok (.iconst 1, 1) := by decide +kernel
theorem dX7_bestPause_51 : decode cX7_bestPause 51 = .ok (.iload_n 3, 1) := by decide +kernel
theorem dX7_bestPause_52 : decode cX7_bestPause 52 = .ok (.invokevirtual 70, 3) := by decide +kernel
theorem dX7_bestPause_55 : decode cX7_bestPause 55 = .ok (.aload_n 0, 1) := by decide +kernel
theorem dX7_bestPause_56 : decode cX7_bestPause 56 = .ok (.getfield 41, 3) := by decide +kernel
theorem dX7_bestPause_59 : decode cX7_bestPause 59 = .ok (.aload_n 0, 1) := by decide +kernel
theorem dX7_bestPause_60 : decode cX7_bestPause 60 = .ok (.getfield 12, 3) := by decide +kernel
theorem dX7_bestPause_63 : decode cX7_bestPause 63 = .ok (.getfield 63, 3) := by decide +kernel
theorem dX7_bestPause_66 : decode cX7_bestPause 66 = .ok (.iconst 4, 1) := by decide +kernel
theorem dX7_bestPause_67 : decode cX7_bestPause 67 = .ok (.invokevirtual 66, 3) := by decide +kernel
theorem dX7_bestPause_70 : decode cX7_bestPause 70 = .ok (.invokevirtual 239, 3) := by decide +kernel
theorem dX7_bestPause_73 : decode cX7_bestPause 73 = .ok (.aload_n 0, 1) := by decide +kernel
theorem dX7_bestPause_74 : decode cX7_bestPause 74 = .ok (.getfield 41, 3) := by decide +kernel
theorem dX7_bestPause_77 : decode cX7_bestPause 77 = .ok (.aload_n 0, 1) := by decide +kernel
theorem dX7_bestPause_78 : decode cX7_bestPause 78 = .ok (.getfield 12, 3) := by decide +kernel
theorem dX7_bestPause_81 : decode cX7_bestPause 81 = .ok (.getfield 78, 3) := by decide +kernel
theorem dX7_bestPause_84 : decode cX7_bestPause 84 = .ok (.aload_n 0, 1) := by decide +kernel
theorem dX7_bestPause_85 : decode cX7_bestPause 85 = .ok (.getfield 12, 3) := by decide +kernel
theorem dX7_bestPause_88 : decode cX7_bestPause 88 = .ok (.getfield 95, 3) := by decide +kernel
theorem dX7_bestPause_91 : decode cX7_bestPause 91 = .ok (.aload_n 0, 1) := by decide +kernel
theorem dX7_bestPause_92 : decode cX7_bestPause 92 = .ok (.getfield 48, 3) := by decide +kernel
theorem dX7_bestPause_95 : decode cX7_bestPause 95 = .ok (.iload_n 2, 1) := by decide +kernel
theorem dX7_bestPause_96 : decode cX7_bestPause 96 = .ok (.invokevirtual 133, 3) := by decide +kernel
theorem dX7_bestPause_99 : decode cX7_bestPause 99 = .ok (.aload_n 0, 1) := by decide +kernel
theorem dX7_bestPause_100 : decode cX7_bestPause 100 = .ok (.getfield 41, 3) := by decide +kernel
theorem dX7_bestPause_103 : decode cX7_bestPause 103 = .ok (.aload_n 0, 1) := by decide +kernel
theorem dX7_bestPause_104 : decode cX7_bestPause 104 = .ok (.getfield 12, 3) := by decide +kernel
theorem dX7_bestPause_107 : decode cX7_bestPause 107 = .ok (.getfield 95, 3) := by decide +kernel
theorem dX7_bestPause_110 : decode cX7_bestPause 110 = .ok (.invokevirtual 129, 3) := by decide +kernel
theorem dX7_bestPause_113 : decode cX7_bestPause 113 = .ok (.ifCond .eq 15, 3) := by decide +kernel
theorem dX7_bestPause_116 : decode cX7_bestPause 116 = .ok (.iload_n 3, 1) := by decide +kernel
theorem dX7_bestPause_117 : decode cX7_bestPause 117 = .ok (.istore_n 1, 1) := by decide +kernel
theorem dX7_bestPause_118 : decode cX7_bestPause 118 = .ok (.aload_n 0, 1) := by decide +kernel
theorem dX7_bestPause_119 : decode cX7_bestPause 119 = .ok (.getfield 41, 3) := by decide +kernel
theorem dX7_bestPause_122 : decode cX7_bestPause 122 = .ok (.getfield 122, 3) := by decide +kernel
theorem dX7_bestPause_125 : decode cX7_bestPause 125 = .ok (.iconst 1, 1) := by decide +kernel
theorem dX7_bestPause_126 : decode cX7_bestPause 126 = .ok (.isub, 1) := by decide +kernel
theorem dX7_bestPause_127 : decode cX7_bestPause 127 = .ok (.istore_n 2, 1) := by decide +kernel
theorem dX7_bestPause_128 : decode cX7_bestPause 128 = .ok (.iinc 3 1, 3) := by decide +kernel
theorem dX7_bestPause_131 : decode cX7_bestPause 131 = .ok (.goto (-94), 3) := by decide +kernel
theorem dX7_bestPause_134 : decode cX7_bestPause 134 = .ok (.iload_n 1, 1) := by decide +kernel
theorem dX7_bestPause_135 : decode cX7_bestPause 135 = .ok (.ireturn, 1) := by decide +kernel
theorem dX7_put_0 : decode cX7_put 0 = .ok (.lload_n 1, 1) := by decide +kernel
theorem dX7_put_1 : decode cX7_put 1 = .ok (.invokestatic 257, 3) := by decide +kernel
theorem dX7_put_4 : decode cX7_put 4 = .ok (.istore_n 3, 1) := by decide +kernel
theorem dX7_put_5 : decode cX7_put 5 = .ok (.iload_n 3, 1) := by decide +kernel
theorem dX7_put_6 : decode cX7_put 6 = .ok (.ifCond .ne 6, 3) := by decide +kernel
theorem dX7_put_9 : decode cX7_put 9 = .ok (.bipush (-2), 2) := by decide +kernel
theorem dX7_put_11 : decode cX7_put 11 = .ok (.ireturn, 1) := by decide +kernel
theorem dX7_put_12 : decode cX7_put 12 = .ok (.aload_n 0, 1) := by decide +kernel
theorem dX7_put_13 : decode cX7_put 13 = .ok (.getfield 34, 3) := by decide +kernel
theorem dX7_put_16 : decode cX7_put 16 = .ok (.getfield 215, 3) := by decide +kernel
theorem dX7_put_19 : decode cX7_put 19 = .ok (.iload_n 3, 1) := by decide +kernel
theorem dX7_put_20 : decode cX7_put 20 = .ok (.iadd, 1) := by decide +kernel
theorem dX7_put_21 : decode cX7_put 21 = .ok (.bipush 60, 2) := by decide +kernel
theorem dX7_put_23 : decode cX7_put 23 = .ok (.if_icmp .le 6, 3) := by decide +kernel
theorem dX7_put_26 : decode cX7_put 26 = .ok (.bipush (-4), 2) := by decide +kernel
theorem dX7_put_28 : decode cX7_put 28 = .ok (.ireturn, 1) := by decide +kernel
theorem dX7_put_29 : decode cX7_put 29 = .ok (.iload_n 3, 1) := by decide +kernel
theorem dX7_put_30 : decode cX7_put 30 = .ok (.iconst 1, 1) := by decide +kernel
theorem dX7_put_31 : decode cX7_put 31 = .ok (.isub, 1) := by decide +kernel
theorem dX7_put_32 : decode cX7_put 32 = .ok (.istore 4, 2) := by decide +kernel
theorem dX7_put_34 : decode cX7_put 34 = .ok (.iload 4, 2) := by decide +kernel
theorem dX7_put_36 : decode cX7_put 36 = .ok (.ifCond .lt 22, 3) := by decide +kernel
theorem dX7_put_39 : decode cX7_put 39 = .ok (.aload_n 0, 1) := by decide +kernel
theorem dX7_put_40 : decode cX7_put 40 = .ok (.getfield 34, 3) := by decide +kernel
theorem dX7_put_43 : decode cX7_put 43 = .ok (.lload_n 1, 1) := by decide +kernel
theorem dX7_put_44 : decode cX7_put 44 = .ok (.iload 4, 2) := by decide +kernel
theorem dX7_put_46 : decode cX7_put 46 = .ok (.invokestatic 261, 3) := by decide +kernel
theorem dX7_put_49 : decode cX7_put 49 = .ok (.invokevirtual 265, 3) := by decide +kernel
theorem dX7_put_52 : decode cX7_put 52 = .ok (.iinc 4 (-1), 3) := by decide +kernel
theorem dX7_put_55 : decode cX7_put 55 = .ok (.goto (-21), 3) := by decide +kernel
theorem dX7_put_58 : decode cX7_put 58 = .ok (.aload_n 0, 1) := by decide +kernel
theorem dX7_put_59 : decode cX7_put 59 = .ok (.getfield 34, 3) := by decide +kernel
theorem dX7_put_62 : decode cX7_put 62 = .ok (.getfield 215, 3) := by decide +kernel
theorem dX7_put_65 : decode cX7_put 65 = .ok (.ireturn, 1) := by decide +kernel
theorem dX7_wipe_0 : decode cX7_wipe 0 = .ok (.aload_n 0, 1) := by decide +kernel
theorem dX7_wipe_1 : decode cX7_wipe 1 = .ok (.getfield 34, 3) := by decide +kernel
theorem dX7_wipe_4 : decode cX7_wipe 4 = .ok (.getfield 215, 3) := by decide +kernel
theorem dX7_wipe_7 : decode cX7_wipe 7 = .ok (.istore_n 1, 1) := by decide +kernel
theorem dX7_wipe_8 : decode cX7_wipe 8 = .ok (.aload_n 0, 1) := by decide +kernel
theorem dX7_wipe_9 : decode cX7_wipe 9 = .ok (.getfield 34, 3) := by decide +kernel
theorem dX7_wipe_12 : decode cX7_wipe 12 = .ok (.invokevirtual 86, 3) := by decide +kernel
theorem dX7_wipe_15 : decode cX7_wipe 15 = .ok (.iload_n 1, 1) := by decide +kernel
theorem dX7_wipe_16 : decode cX7_wipe 16 = .ok (.ireturn, 1) := by decide +kernel
theorem dX7_fault_0 : decode cX7_fault 0 = .ok (.aload_n 0, 1) := by decide +kernel
theorem dX7_fault_1 : decode cX7_fault 1 = .ok (.getfield 34, 3) := by decide +kernel
theorem dX7_fault_4 : decode cX7_fault 4 = .ok (.invokevirtual 74, 3) := by decide +kernel
theorem dX7_fault_7 : decode cX7_fault 7 = .ok (.ireturn, 1) := by decide +kernel
theorem dX7_undo_0 : decode cX7_undo 0 = .ok (.aload_n 0, 1) := by decide +kernel
theorem dX7_undo_1 : decode cX7_undo 1 = .ok (.getfield 27, 3) := by decide +kernel
theorem dX7_undo_4 : decode cX7_undo 4 = .ok (.getfield 218, 3) := by decide +kernel
theorem dX7_undo_7 : decode cX7_undo 7 = .ok (.ifCond .ne 6, 3) := by decide +kernel
theorem dX7_undo_10 : decode cX7_undo 10 = .ok (.bipush (-5), 2) := by decide +kernel
theorem dX7_undo_12 : decode cX7_undo 12 = .ok (.ireturn, 1) := by decide +kernel
theorem dX7_undo_13 : decode cX7_undo 13 = .ok (.aload_n 0, 1) := by decide +kernel
theorem dX7_undo_14 : decode cX7_undo 14 = .ok (.getfield 27, 3) := by decide +kernel
theorem dX7_undo_17 : decode cX7_undo 17 = .ok (.aload_n 0, 1) := by decide +kernel
theorem dX7_undo_18 : decode cX7_undo 18 = .ok (.getfield 12, 3) := by decide +kernel
theorem dX7_undo_21 : decode cX7_undo 21 = .ok (.invokevirtual 268, 3) := by decide +kernel
theorem dX7_undo_24 : decode cX7_undo 24 = .ok (.aload_n 0, 1) := by decide +kernel
theorem dX7_undo_25 : decode cX7_undo 25 = .ok (.getfield 27, 3) := by decide +kernel
theorem dX7_undo_28 : decode cX7_undo 28 = .ok (.getfield 218, 3) := by decide +kernel
theorem dX7_undo_31 : decode cX7_undo 31 = .ok (.ireturn, 1) := by decide +kernel
theorem dX7_save_0 : decode cX7_save 0 = .ok (.iload_n 1, 1) := by decide +kernel
theorem dX7_save_1 : decode cX7_save 1 = .ok (.invokestatic 271, 3) := by decide +kernel
theorem dX7_save_4 : decode cX7_save 4 = .ok (.ifCond .ne 6, 3) := by decide +kernel
theorem dX7_save_7 : decode cX7_save 7 = .ok (.bipush (-2), 2) := by decide +kernel
theorem dX7_save_9 : decode cX7_save 9 = .ok (.ireturn, 1) := by decide +kernel
theorem dX7_save_10 : decode cX7_save 10 = .ok (.aload_n 0, 1) := by decide +kernel
theorem dX7_save_11 : decode cX7_save 11 = .ok (.getfield 16, 3) := by decide +kernel
theorem dX7_save_14 : decode cX7_save 14 = .ok (.iload_n 1, 1) := by decide +kernel
theorem dX7_save_15 : decode cX7_save 15 = .ok (.aaload, 1) := by decide +kernel
theorem dX7_save_16 : decode cX7_save 16 = .ok (.astore_n 2, 1) := by decide +kernel
theorem dX7_save_17 : decode cX7_save 17 = .ok (.aload_n 2, 1) := by decide +kernel
theorem dX7_save_18 : decode cX7_save 18 = .ok (.ifnull 18, 3) := by decide +kernel
theorem dX7_save_21 : decode cX7_save 21 = .ok (.aload_n 2, 1) := by decide +kernel
theorem dX7_save_22 : decode cX7_save 22 = .ok (.aload_n 0, 1) := by decide +kernel
theorem dX7_save_23 : decode cX7_save 23 = .ok (.getfield 12, 3) := by decide +kernel
theorem dX7_save_26 : decode cX7_save 26 = .ok (.invokevirtual 274, 3) := by decide +kernel
theorem dX7_save_29 : decode cX7_save 29 = .ok (.aload_n 0, 1) := by decide +kernel
theorem dX7_save_30 : decode cX7_save 30 = .ok (.getfield 20, 3) := by decide +kernel
theorem dX7_save_33 : decode cX7_save 33 = .ok (.iload_n 1, 1) := by decide +kernel
theorem dX7_save_34 : decode cX7_save 34 = .ok (.iconst 1, 1) := by decide +kernel
theorem dX7_save_35 : decode cX7_save 35 = .ok (.bastore, 1) := by decide +kernel
theorem dX7_save_36 : decode cX7_save 36 = .ok (.aload_n 0, 1) := by decide +kernel
theorem dX7_save_37 : decode cX7_save 37 = .ok (.getfield 12, 3) := by decide +kernel
theorem dX7_save_40 : decode cX7_save 40 = .ok (.getfield 119, 3) := by decide +kernel
theorem dX7_save_43 : decode cX7_save 43 = .ok (.getfield 122, 3) := by decide +kernel
theorem dX7_save_46 : decode cX7_save 46 = .ok (.ireturn, 1) := by decide +kernel
theorem dX7_restore_0 : decode cX7_restore 0 = .ok (.iload_n 1, 1) := by decide +kernel
theorem dX7_restore_1 : decode cX7_restore 1 = .ok (.invokestatic 271, 3) := by decide +kernel
theorem dX7_restore_4 : decode cX7_restore 4 = .ok (.ifCond .ne 6, 3) := by decide +kernel
theorem dX7_restore_7 : decode cX7_restore 7 = .ok (.bipush (-2), 2) := by decide +kernel
theorem dX7_restore_9 : decode cX7_restore 9 = .ok (.ireturn, 1) := by decide +kernel
theorem dX7_restore_10 : decode cX7_restore 10 = .ok (.aload_n 0, 1) := by decide +kernel
theorem dX7_restore_11 : decode cX7_restore 11 = .ok (.getfield 16, 3) := by decide +kernel
theorem dX7_restore_14 : decode cX7_restore 14 = .ok (.iload_n 1, 1) := by decide +kernel
theorem dX7_restore_15 : decode cX7_restore 15 = .ok (.aaload, 1) := by decide +kernel
theorem dX7_restore_16 : decode cX7_restore 16 = .ok (.astore_n 2, 1) := by decide +kernel
theorem dX7_restore_17 : decode cX7_restore 17 = .ok (.aload_n 2, 1) := by decide +kernel
theorem dX7_restore_18 : decode cX7_restore 18 = .ok (.ifnull 12, 3) := by decide +kernel
theorem dX7_restore_21 : decode cX7_restore 21 = .ok (.aload_n 0, 1) := by decide +kernel
theorem dX7_restore_22 : decode cX7_restore 22 = .ok (.getfield 20, 3) := by decide +kernel
theorem dX7_restore_25 : decode cX7_restore 25 = .ok (.iload_n 1, 1) := by decide +kernel
theorem dX7_restore_26 : decode cX7_restore 26 = .ok (.baload, 1) := by decide +kernel
theorem dX7_restore_27 : decode cX7_restore 27 = .ok (.ifCond .ne 6, 3) := by decide +kernel
theorem dX7_restore_30 : decode cX7_restore 30 = .ok (.bipush (-5), 2) := by decide +kernel
theorem dX7_restore_32 : decode cX7_restore 32 = .ok (.ireturn, 1) := by decide +kernel
theorem dX7_restore_33 : decode cX7_restore 33 = .ok (.aload_n 0, 1) := by decide +kernel
theorem dX7_restore_34 : decode cX7_restore 34 = .ok (.getfield 27, 3) := by decide +kernel
theorem dX7_restore_37 : decode cX7_restore 37 = .ok (.aload_n 0, 1) := by decide +kernel
theorem dX7_restore_38 : decode cX7_restore 38 = .ok (.getfield 12, 3) := by decide +kernel
theorem dX7_restore_41 : decode cX7_restore 41 = .ok (.invokevirtual 59, 3) := by decide +kernel
theorem dX7_restore_44 : decode cX7_restore 44 = .ok (.aload_n 0, 1) := by decide +kernel
theorem dX7_restore_45 : decode cX7_restore 45 = .ok (.getfield 12, 3) := by decide +kernel
theorem dX7_restore_48 : decode cX7_restore 48 = .ok (.aload_n 2, 1) := by decide +kernel
theorem dX7_restore_49 : decode cX7_restore 49 = .ok (.invokevirtual 274, 3) := by decide +kernel
theorem dX7_restore_52 : decode cX7_restore 52 = .ok (.aload_n 0, 1) := by decide +kernel
theorem dX7_restore_53 : decode cX7_restore 53 = .ok (.getfield 12, 3) := by decide +kernel
theorem dX7_restore_56 : decode cX7_restore 56 = .ok (.getfield 119, 3) := by decide +kernel
theorem dX7_restore_59 : decode cX7_restore 59 = .ok (.getfield 122, 3) := by decide +kernel
theorem dX7_restore_62 : decode cX7_restore 62 = .ok (.ireturn, 1) := by decide +kernel
theorem dX7_isReady_0 : decode cX7_isReady 0 = .ok (.aload_n 0, 1) := by decide +kernel
theorem dX7_isReady_1 : decode cX7_isReady 1 = .ok (.getfield 12, 3) := by decide +kernel
theorem dX7_isReady_4 : decode cX7_isReady 4 = .ok (.getfield 78, 3) := by decide +kernel
theorem dX7_isReady_7 : decode cX7_isReady 7 = .ok (.getfield 89, 3) := by decide +kernel
theorem dX7_isReady_10 : decode cX7_isReady 10 = .ok (.ifCond .le 20, 3) := by decide +kernel
theorem dX7_isReady_13 : decode cX7_isReady 13 = .ok (.aload_n 0, 1) := by decide +kernel
theorem dX7_isReady_14 : decode cX7_isReady 14 = .ok (.getfield 12, 3) := by decide +kernel
theorem dX7_isReady_17 : decode cX7_isReady 17 = .ok (.getfield 95, 3) := by decide +kernel
theorem dX7_isReady_20 : decode cX7_isReady 20 = .ok (.getfield 99, 3) := by decide +kernel
theorem dX7_isReady_23 : decode cX7_isReady 23 = .ok (.ifCond .le 7, 3) := by decide +kernel
theorem dX7_isReady_26 : decode cX7_isReady 26 = .ok (.iconst 1, 1) := by decide +kernel
theorem dX7_isReady_27 : decode cX7_isReady 27 = .ok (.goto 4, 3) := by decide +kernel
theorem dX7_isReady_30 : decode cX7_isReady 30 = .ok (.iconst 0, 1) := by decide +kernel
theorem dX7_isReady_31 : decode cX7_isReady 31 = .ok (.ireturn, 1) := by decide +kernel
theorem dX7_isSlot_0 : decode cX7_isSlot 0 = .ok (.iload_n 0, 1) := by decide +kernel
theorem dX7_isSlot_1 : decode cX7_isSlot 1 = .ok (.ifCond .lt 12, 3) := by decide +kernel
theorem dX7_isSlot_4 : decode cX7_isSlot 4 = .ok (.iload_n 0, 1) := by decide +kernel
theorem dX7_isSlot_5 : decode cX7_isSlot 5 = .ok (.iconst 2, 1) := by decide +kernel
theorem dX7_isSlot_6 : decode cX7_isSlot 6 = .ok (.if_icmp .ge 7, 3) := by decide +kernel
theorem dX7_isSlot_9 : decode cX7_isSlot 9 = .ok (.iconst 1, 1) := by decide +kernel
theorem dX7_isSlot_10 : decode cX7_isSlot 10 = .ok (.goto 4, 3) := by decide +kernel
theorem dX7_isSlot_13 : decode cX7_isSlot 13 = .ok (.iconst 0, 1) := by decide +kernel
theorem dX7_isSlot_14 : decode cX7_isSlot 14 = .ok (.ireturn, 1) := by decide +kernel
theorem dX7_songsByCounting_0 : decode cX7_songsByCounting 0 = .ok (.iconst 1, 1) := by decide +kernel
theorem dX7_songsByCounting_1 : decode cX7_songsByCounting 1 = .ok (.istore_n 2, 1) := by decide +kernel
theorem dX7_songsByCounting_2 : decode cX7_songsByCounting 2 = .ok (.iload_n 2, 1) := by decide +kernel
theorem dX7_songsByCounting_3 : decode cX7_songsByCounting 3 = .ok (.iload_n 1, 1) := by decide +kernel
theorem dX7_songsByCounting_4 : decode cX7_songsByCounting 4 = .ok (.if_icmp .ge 19, 3) := by decide +kernel
theorem dX7_songsByCounting_7 : decode cX7_songsByCounting 7 = .ok (.iload_n 2, 1) := by decide +kernel
theorem dX7_songsByCounting_8 : decode cX7_songsByCounting 8 = .ok (.iload_n 0, 1) := by decide +kernel
theorem dX7_songsByCounting_9 : decode cX7_songsByCounting 9 = .ok (.imul, 1) := by decide +kernel
theorem dX7_songsByCounting_10 : decode cX7_songsByCounting 10 = .ok (.iload_n 1, 1) := by decide +kernel
theorem dX7_songsByCounting_11 : decode cX7_songsByCounting 11 = .ok (.irem, 1) := by decide +kernel
theorem dX7_songsByCounting_12 : decode cX7_songsByCounting 12 = .ok (.ifCond .ne 5, 3) := by decide +kernel
theorem dX7_songsByCounting_15 : decode cX7_songsByCounting 15 = .ok (.iload_n 2, 1) := by decide +kernel
theorem dX7_songsByCounting_16 : decode cX7_songsByCounting 16 = .ok (.ireturn, 1) := by decide +kernel
theorem dX7_songsByCounting_17 : decode cX7_songsByCounting 17 = .ok (.iinc 2 1, 3) := by decide +kernel
theorem dX7_songsByCounting_20 : decode cX7_songsByCounting 20 = .ok (.goto (-18), 3) := by decide +kernel
theorem dX7_songsByCounting_23 : decode cX7_songsByCounting 23 = .ok (.iload_n 1, 1) := by decide +kernel
theorem dX7_songsByCounting_24 : decode cX7_songsByCounting 24 = .ok (.ireturn, 1) := by decide +kernel
theorem dX7_songsAtOnce_0 : decode cX7_songsAtOnce 0 = .ok (.iload_n 0, 1) := by decide +kernel
theorem dX7_songsAtOnce_1 : decode cX7_songsAtOnce 1 = .ok (.iload_n 1, 1) := by decide +kernel
theorem dX7_songsAtOnce_2 : decode cX7_songsAtOnce 2 = .ok (.invokestatic 276, 3) := by decide +kernel
theorem dX7_songsAtOnce_5 : decode cX7_songsAtOnce 5 = .ok (.istore_n 2, 1) := by decide +kernel
theorem dX7_songsAtOnce_6 : decode cX7_songsAtOnce 6 = .ok (.iload_n 2, 1) := by decide +kernel
theorem dX7_songsAtOnce_7 : decode cX7_songsAtOnce 7 = .ok (.ifCond .le 9, 3) := by decide +kernel
theorem dX7_songsAtOnce_10 : decode cX7_songsAtOnce 10 = .ok (.iload_n 1, 1) := by decide +kernel
theorem dX7_songsAtOnce_11 : decode cX7_songsAtOnce 11 = .ok (.iload_n 2, 1) := by decide +kernel
theorem dX7_songsAtOnce_12 : decode cX7_songsAtOnce 12 = .ok (.idiv, 1) := by decide +kernel
theorem dX7_songsAtOnce_13 : decode cX7_songsAtOnce 13 = .ok (.goto 4, 3) := by decide +kernel
theorem dX7_songsAtOnce_16 : decode cX7_songsAtOnce 16 = .ok (.iload_n 1, 1) := by decide +kernel
theorem dX7_songsAtOnce_17 : decode cX7_songsAtOnce 17 = .ok (.ireturn, 1) := by decide +kernel
theorem dX7_greatestShared_0 : decode cX7_greatestShared 0 = .ok (.iload_n 0, 1) := by decide +kernel
theorem dX7_greatestShared_1 : decode cX7_greatestShared 1 = .ok (.istore_n 2, 1) := by decide +kernel
theorem dX7_greatestShared_2 : decode cX7_greatestShared 2 = .ok (.iload_n 1, 1) := by decide +kernel
theorem dX7_greatestShared_3 : decode cX7_greatestShared 3 = .ok (.istore_n 3, 1) := by decide +kernel
theorem dX7_greatestShared_4 : decode cX7_greatestShared 4 = .ok (.iconst 0, 1) := by decide +kernel
theorem dX7_greatestShared_5 : decode cX7_greatestShared 5 = .ok (.istore 4, 2) := by decide +kernel
theorem dX7_greatestShared_7 : decode cX7_greatestShared 7 = .ok (.iload 4, 2) := by decide +kernel
theorem dX7_greatestShared_9 : decode cX7_greatestShared 9 = .ok (.sipush 1000, 3) := by decide +kernel
theorem dX7_greatestShared_12 : decode cX7_greatestShared 12 = .ok (.if_icmp .ge 23, 3) := by decide +kernel
theorem dX7_greatestShared_15 : decode cX7_greatestShared 15 = .ok (.iload_n 3, 1) := by decide +kernel
theorem dX7_greatestShared_16 : decode cX7_greatestShared 16 = .ok (.ifCond .eq 19, 3) := by decide +kernel
theorem dX7_greatestShared_19 : decode cX7_greatestShared 19 = .ok (.iload_n 2, 1) := by decide +kernel
theorem dX7_greatestShared_20 : decode cX7_greatestShared 20 = .ok (.iload_n 3, 1) := by decide +kernel
theorem dX7_greatestShared_21 : decode cX7_greatestShared 21 = .ok (.irem, 1) := by decide +kernel
theorem dX7_greatestShared_22 : decode cX7_greatestShared 22 = .ok (.istore 5, 2) := by decide +kernel
theorem dX7_greatestShared_24 : decode cX7_greatestShared 24 = .ok (.iload_n 3, 1) := by decide +kernel
theorem dX7_greatestShared_25 : decode cX7_greatestShared 25 = .ok (.istore_n 2, 1) := by decide +kernel
theorem dX7_greatestShared_26 : decode cX7_greatestShared 26 = .ok (.iload 5, 2) := by decide +kernel
theorem dX7_greatestShared_28 : decode cX7_greatestShared 28 = .ok (.istore_n 3, 1) := by decide +kernel
theorem dX7_greatestShared_29 : decode cX7_greatestShared 29 = .ok (.iinc 4 1, 3) := by decide +kernel
theorem dX7_greatestShared_32 : decode cX7_greatestShared 32 = .ok (.goto (-25), 3) := by decide +kernel
theorem dX7_greatestShared_35 : decode cX7_greatestShared 35 = .ok (.iload_n 2, 1) := by decide +kernel
theorem dX7_greatestShared_36 : decode cX7_greatestShared 36 = .ok (.ireturn, 1) := by decide +kernel
end
section
theorem dX8_init_0 : decode cX8_init 0 = .ok (.aload_n 0, 1) := by decide +kernel
theorem dX8_init_1 : decode cX8_init 1 = .ok (.invokespecial 1, 3) := by decide +kernel
theorem dX8_init_4 : decode cX8_init 4 = .ok (.aload_n 0, 1) := by decide +kernel
theorem dX8_init_5 : decode cX8_init 5 = .ok (.sipush 190, 3) := by decide +kernel
theorem dX8_init_8 : decode cX8_init 8 = .ok (.newarray .int, 2) := by decide +kernel
theorem dX8_init_10 : decode cX8_init 10 = .ok (.putfield 7, 3) := by decide +kernel
theorem dX8_init_13 : decode cX8_init 13 = .ok (.aload_n 0, 1) := by decide +kernel
theorem dX8_init_14 : decode cX8_init 14 = .ok (.sipush 190, 3) := by decide +kernel
theorem dX8_init_17 : decode cX8_init 17 = .ok (.newarray .int, 2) := by decide +kernel
theorem dX8_init_19 : decode cX8_init 19 = .ok (.putfield 13, 3) := by decide +kernel
theorem dX8_init_22 : decode cX8_init 22 = .ok (.aload_n 0, 1) := by decide +kernel
theorem dX8_init_23 : decode cX8_init 23 = .ok (.sipush 1140, 3) := by decide +kernel
theorem dX8_init_26 : decode cX8_init 26 = .ok (.newarray .int, 2) := by decide +kernel
theorem dX8_init_28 : decode cX8_init 28 = .ok (.putfield 16, 3) := by decide +kernel
theorem dX8_init_31 : decode cX8_init 31 = .ok (.aload_n 0, 1) := by decide +kernel
theorem dX8_init_32 : decode cX8_init 32 = .ok (.sipush 380, 3) := by decide +kernel
theorem dX8_init_35 : decode cX8_init 35 = .ok (.newarray .int, 2) := by decide +kernel
theorem dX8_init_37 : decode cX8_init 37 = .ok (.putfield 19, 3) := by decide +kernel
theorem dX8_init_40 : decode cX8_init 40 = .ok (.aload_n 0, 1) := by decide +kernel
theorem dX8_init_41 : decode cX8_init 41 = .ok (.iconst 2, 1) := by decide +kernel
theorem dX8_init_42 : decode cX8_init 42 = .ok (.newarray .boolean, 2) := by decide +kernel
theorem dX8_init_44 : decode cX8_init 44 = .ok (.putfield 22, 3) := by decide +kernel
theorem dX8_init_47 : decode cX8_init 47 = .ok (.aload_n 0, 1) := by decide +kernel
theorem dX8_init_48 : decode cX8_init 48 = .ok (.bipush 60, 2) := by decide +kernel
theorem dX8_init_50 : decode cX8_init 50 = .ok (.newarray .int, 2) := by decide +kernel
theorem dX8_init_52 : decode cX8_init 52 = .ok (.putfield 26, 3) := by decide +kernel
theorem dX8_init_55 : decode cX8_init 55 = .ok (.aload_n 0, 1) := by decide +kernel
theorem dX8_init_56 : decode cX8_init 56 = .ok (.bipush 120, 2) := by decide +kernel
theorem dX8_init_58 : decode cX8_init 58 = .ok (.newarray .int, 2) := by decide +kernel
theorem dX8_init_60 : decode cX8_init 60 = .ok (.putfield 29, 3) := by decide +kernel
theorem dX8_init_63 : decode cX8_init 63 = .ok (.aload_n 0, 1) := by decide +kernel
theorem dX8_init_64 : decode cX8_init 64 = .ok (.bipush 10, 2) := by decide +kernel
theorem dX8_init_66 : decode cX8_init 66 = .ok (.newarray .int, 2) := by decide +kernel
theorem dX8_init_68 : decode cX8_init 68 = .ok (.putfield 32, 3) := by decide +kernel
theorem dX8_init_71 : decode cX8_init 71 = .ok (.aload_n 0, 1) := by decide +kernel
theorem dX8_init_72 : decode cX8_init 72 = .ok (.getfield 7, 3) := by decide +kernel
theorem dX8_init_75 : decode cX8_init 75 = .ok (.iconst 0, 1) := by decide +kernel
theorem dX8_init_76 : decode cX8_init 76 = .ok (.iconst 4, 1) := by decide +kernel
theorem dX8_init_77 : decode cX8_init 77 = .ok (.iastore, 1) := by decide +kernel
theorem dX8_init_78 : decode cX8_init 78 = .ok (.aload_n 0, 1) := by decide +kernel
theorem dX8_init_79 : decode cX8_init 79 = .ok (.getfield 7, 3) := by decide +kernel
theorem dX8_init_82 : decode cX8_init 82 = .ok (.iconst 1, 1) := by decide +kernel
theorem dX8_init_83 : decode cX8_init 83 = .ok (.iconst 1, 1) := by decide +kernel
theorem dX8_init_84 : decode cX8_init 84 = .ok (.iastore, 1) := by decide +kernel
theorem dX8_init_85 : decode cX8_init 85 = .ok (.aload_n 0, 1) := by decide +kernel
theorem dX8_init_86 : decode cX8_init 86 = .ok (.getfield 7, 3) := by decide +kernel
theorem dX8_init_89 : decode cX8_init 89 = .ok (.iconst 2, 1) := by decide +kernel
theorem dX8_init_90 : decode cX8_init 90 = .ok (.iconst 3, 1) := by decide +kernel
theorem dX8_init_91 : decode cX8_init 91 = .ok (.iastore, 1) := by decide +kernel
theorem dX8_init_92 : decode cX8_init 92 = .ok (.aload_n 0, 1) := by decide +kernel
theorem dX8_init_93 : decode cX8_init 93 = .ok (.getfield 7, 3) := by decide +kernel
theorem dX8_init_96 : decode cX8_init 96 = .ok (.iconst 3, 1) := by decide +kernel
theorem dX8_init_97 : decode cX8_init 97 = .ok (.iconst 4, 1) := by decide +kernel
theorem dX8_init_98 : decode cX8_init 98 = .ok (.iastore, 1) := by decide +kernel
theorem dX8_init_99 : decode cX8_init 99 = .ok (.aload_n 0, 1) := by decide +kernel
theorem dX8_init_100 : decode cX8_init 100 = .ok (.getfield 7, 3) := by decide +kernel
theorem dX8_init_103 : decode cX8_init 103 = .ok (.iconst 4, 1) := by decide +kernel
theorem dX8_init_104 : decode cX8_init 104 = .ok (.bipush 30, 2) := by decide +kernel
theorem dX8_init_106 : decode cX8_init 106 = .ok (.iastore, 1) := by decide +kernel
theorem dX8_init_107 : decode cX8_init 107 = .ok (.aload_n 0, 1) := by decide +kernel
theorem dX8_init_108 : decode cX8_init 108 = .ok (.getfield 7, 3) := by decide +kernel
theorem dX8_init_111 : decode cX8_init 111 = .ok (.iconst 5, 1) := by decide +kernel
theorem dX8_init_112 : decode cX8_init 112 = .ok (.iconst 4, 1) := by decide +kernel
theorem dX8_init_113 : decode cX8_init 113 = .ok (.iastore, 1) := by decide +kernel
theorem dX8_init_114 : decode cX8_init 114 = .ok (.aload_n 0, 1) := by decide +kernel
theorem dX8_init_115 : decode cX8_init 115 = .ok (.invokevirtual 35, 3) := by decide +kernel
theorem dX8_init_118 : decode cX8_init 118 = .ok (.return_, 1) := by decide +kernel
theorem dX8_in_0 : decode cX8_in 0 = .ok (.iload_n 0, 1) := by decide +kernel
theorem dX8_in_1 : decode cX8_in 1 = .ok (.iload_n 1, 1) := by decide +kernel
theorem dX8_in_2 : decode cX8_in 2 = .ok (.if_icmp .lt 12, 3) := by decide +kernel
theorem dX8_in_5 : decode cX8_in 5 = .ok (.iload_n 0, 1) := by decide +kernel
theorem dX8_in_6 : decode cX8_in 6 = .ok (.iload_n 2, 1) := by decide +kernel
theorem dX8_in_7 : decode cX8_in 7 = .ok (.if_icmp .gt 7, 3) := by decide +kernel
theorem dX8_in_10 : decode cX8_in 10 = .ok (.iconst 1, 1) := by decide +kernel
theorem dX8_in_11 : decode cX8_in 11 = .ok (.goto 4, 3) := by decide +kernel
theorem dX8_in_14 : decode cX8_in 14 = .ok (.iconst 0, 1) := by decide +kernel
theorem dX8_in_15 : decode cX8_in 15 = .ok (.ireturn, 1) := by decide +kernel
theorem dX8_ofStretch_0 : decode cX8_ofStretch 0 = .ok (.aload_n 0, 1) := by decide +kernel
theorem dX8_ofStretch_1 : decode cX8_ofStretch 1 = .ok (.getfield 7, 3) := by decide +kernel
theorem dX8_ofStretch_4 : decode cX8_ofStretch 4 = .ok (.sipush 138, 3) := by decide +kernel
theorem dX8_ofStretch_7 : decode cX8_ofStretch 7 = .ok (.iconst 3, 1) := by decide +kernel
theorem dX8_ofStretch_8 : decode cX8_ofStretch 8 = .ok (.iload_n 1, 1) := by decide +kernel
theorem dX8_ofStretch_9 : decode cX8_ofStretch 9 = .ok (.imul, 1) := by decide +kernel
theorem dX8_ofStretch_10 : decode cX8_ofStretch 10 = .ok (.iadd, 1) := by decide +kernel
theorem dX8_ofStretch_11 : decode cX8_ofStretch 11 = .ok (.iload_n 2, 1) := by decide +kernel
theorem dX8_ofStretch_12 : decode cX8_ofStretch 12 = .ok (.iadd, 1) := by decide +kernel
theorem dX8_ofStretch_13 : decode cX8_ofStretch 13 = .ok (.iaload, 1) := by decide +kernel
theorem dX8_ofStretch_14 : decode cX8_ofStretch 14 = .ok (.ireturn, 1) := by decide +kernel
theorem dX8_isStretch_0 : decode cX8_isStretch 0 = .ok (.iload_n 1, 1) := by decide +kernel
theorem dX8_isStretch_1 : decode cX8_isStretch 1 = .ok (.iconst 0, 1) := by decide +kernel
theorem dX8_isStretch_2 : decode cX8_isStretch 2 = .ok (.aload_n 0, 1) := by decide +kernel
theorem dX8_isStretch_3 : decode cX8_isStretch 3 = .ok (.getfield 7, 3) := by decide +kernel
theorem dX8_isStretch_6 : decode cX8_isStretch 6 = .ok (.bipush 7, 2) := by decide +kernel
theorem dX8_isStretch_8 : decode cX8_isStretch 8 = .ok (.iaload, 1) := by decide +kernel
theorem dX8_isStretch_9 : decode cX8_isStretch 9 = .ok (.iconst 1, 1) := by decide +kernel
theorem dX8_isStretch_10 : decode cX8_isStretch 10 = .ok (.isub, 1) := by decide +kernel
theorem dX8_isStretch_11 : decode cX8_isStretch 11 = .ok (.invokestatic 38, 3) := by decide +kernel
theorem dX8_isStretch_14 : decode cX8_isStretch 14 = .ok (.ireturn, 1) := by decide +kernel
theorem dX8_isLine_0 : decode cX8_isLine 0 = .ok (.iload_n 1, 1) := by decide +kernel
theorem dX8_isLine_1 : decode cX8_isLine 1 = .ok (.iconst 0, 1) := by decide +kernel
theorem dX8_isLine_2 : decode cX8_isLine 2 = .ok (.aload_n 0, 1) := by decide +kernel
theorem dX8_isLine_3 : decode cX8_isLine 3 = .ok (.getfield 7, 3) := by decide +kernel
theorem dX8_isLine_6 : decode cX8_isLine 6 = .ok (.bipush 6, 2) := by decide +kernel
theorem dX8_isLine_8 : decode cX8_isLine 8 = .ok (.iaload, 1) := by decide +kernel
theorem dX8_isLine_9 : decode cX8_isLine 9 = .ok (.iconst 1, 1) := by decide +kernel
theorem dX8_isLine_10 : decode cX8_isLine 10 = .ok (.isub, 1) := by decide +kernel
theorem dX8_isLine_11 : decode cX8_isLine 11 = .ok (.invokestatic 38, 3) := by decide +kernel
theorem dX8_isLine_14 : decode cX8_isLine 14 = .ok (.ireturn, 1) := by decide +kernel
theorem dX8_beatsOf_0 : decode cX8_beatsOf 0 = .ok (.aload_n 0, 1) := by decide +kernel
theorem dX8_beatsOf_1 : decode cX8_beatsOf 1 = .ok (.getfield 7, 3) := by decide +kernel
theorem dX8_beatsOf_4 : decode cX8_beatsOf 4 = .ok (.bipush 18, 2) := by decide +kernel
theorem dX8_beatsOf_6 : decode cX8_beatsOf 6 = .ok (.bipush 12, 2) := by decide +kernel
theorem dX8_beatsOf_8 : decode cX8_beatsOf 8 = .ok (.iload_n 1, 1) := by decide +kernel
theorem dX8_beatsOf_9 : decode cX8_beatsOf 9 = .ok (.imul, 1) := by decide +kernel
theorem dX8_beatsOf_10 : decode cX8_beatsOf 10 = .ok (.iadd, 1) := by decide +kernel
theorem dX8_beatsOf_11 : decode cX8_beatsOf 11 = .ok (.iload_n 2, 1) := by decide +kernel
theorem dX8_beatsOf_12 : decode cX8_beatsOf 12 = .ok (.iadd, 1) := by decide +kernel
theorem dX8_beatsOf_13 : decode cX8_beatsOf 13 = .ok (.iaload, 1) := by decide +kernel
theorem dX8_beatsOf_14 : decode cX8_beatsOf 14 = .ok (.bipush 10, 2) := by decide +kernel
theorem dX8_beatsOf_16 : decode cX8_beatsOf 16 = .ok (.irem, 1) := by decide +kernel
theorem dX8_beatsOf_17 : decode cX8_beatsOf 17 = .ok (.ireturn, 1) := by decide +kernel
theorem dX8_hasMark_0 : decode cX8_hasMark 0 = .ok (.aload_n 0, 1) := by decide +kernel
theorem dX8_hasMark_1 : decode cX8_hasMark 1 = .ok (.getfield 7, 3) := by decide +kernel
theorem dX8_hasMark_4 : decode cX8_hasMark 4 = .ok (.bipush 18, 2) := by decide +kernel
theorem dX8_hasMark_6 : decode cX8_hasMark 6 = .ok (.bipush 12, 2) := by decide +kernel
theorem dX8_hasMark_8 : decode cX8_hasMark 8 = .ok (.iload_n 1, 1) := by decide +kernel
theorem dX8_hasMark_9 : decode cX8_hasMark 9 = .ok (.imul, 1) := by decide +kernel
theorem dX8_hasMark_10 : decode cX8_hasMark 10 = .ok (.iadd, 1) := by decide +kernel
theorem dX8_hasMark_11 : decode cX8_hasMark 11 = .ok (.iload_n 2, 1) := by decide +kernel
theorem dX8_hasMark_12 : decode cX8_hasMark 12 = .ok (.iadd, 1) := by decide +kernel
theorem dX8_hasMark_13 : decode cX8_hasMark 13 = .ok (.iaload, 1) := by decide +kernel
theorem dX8_hasMark_14 : decode cX8_hasMark 14 = .ok (.bipush 9, 2) := by decide +kernel
theorem dX8_hasMark_16 : decode cX8_hasMark 16 = .ok (.if_icmp .le 7, 3) := by decide +kernel
theorem dX8_hasMark_19 : decode cX8_hasMark 19 = .ok (.iconst 1, 1) := by decide +kernel
theorem dX8_hasMark_20 : decode cX8_hasMark 20 = .ok (.goto 4, 3) := by decide +kernel
theorem dX8_hasMark_23 : decode cX8_hasMark 23 = .ok (.iconst 0, 1) := by decide +kernel
theorem dX8_hasMark_24 : decode cX8_hasMark 24 = .ok (.ireturn, 1) := by decide +kernel
theorem dX8_canMarch_0 : decode cX8_canMarch 0 = .ok (.aload_n 0, 1) := by decide +kernel
theorem dX8_canMarch_1 : decode cX8_canMarch 1 = .ok (.getfield 7, 3) := by decide +kernel
theorem dX8_canMarch_4 : decode cX8_canMarch 4 = .ok (.bipush 6, 2) := by decide +kernel
theorem dX8_canMarch_6 : decode cX8_canMarch 6 = .ok (.iaload, 1) := by decide +kernel
theorem dX8_canMarch_7 : decode cX8_canMarch 7 = .ok (.ifCond .le 17, 3) := by decide +kernel
theorem dX8_canMarch_10 : decode cX8_canMarch 10 = .ok (.aload_n 0, 1) := by decide +kernel
theorem dX8_canMarch_11 : decode cX8_canMarch 11 = .ok (.getfield 7, 3) := by decide +kernel
theorem dX8_canMarch_14 : decode cX8_canMarch 14 = .ok (.bipush 7, 2) := by decide +kernel
theorem dX8_canMarch_16 : decode cX8_canMarch 16 = .ok (.iaload, 1) := by decide +kernel
theorem dX8_canMarch_17 : decode cX8_canMarch 17 = .ok (.ifCond .le 7, 3) := by decide +kernel
theorem dX8_canMarch_20 : decode cX8_canMarch 20 = .ok (.iconst 1, 1) := by decide +kernel
theorem dX8_canMarch_21 : decode cX8_canMarch 21 = .ok (.goto 4, 3) := by decide +kernel
theorem dX8_canMarch_24 : decode cX8_canMarch 24 = .ok (.iconst 0, 1) := by decide +kernel
theorem dX8_canMarch_25 : decode cX8_canMarch 25 = .ok (.ireturn, 1) := by decide +kernel
theorem dX8_copyState_0 : decode cX8_copyState 0 = .ok (.iconst 0, 1) := by decide +kernel
theorem dX8_copyState_1 : decode cX8_copyState 1 = .ok (.istore 4, 2) := by decide +kernel
theorem dX8_copyState_3 : decode cX8_copyState 3 = .ok (.iload 4, 2) := by decide +kernel
theorem dX8_copyState_5 : decode cX8_copyState 5 = .ok (.sipush 190, 3) := by decide +kernel
theorem dX8_copyState_8 : decode cX8_copyState 8 = .ok (.if_icmp .ge 21, 3) := by decide +kernel
theorem dX8_copyState_11 : decode cX8_copyState 11 = .ok (.aload_n 2, 1) := by decide +kernel
theorem dX8_copyState_12 : decode cX8_copyState 12 = .ok (.iload_n 3, 1) := by decide +kernel
theorem dX8_copyState_13 : decode cX8_copyState 13 = .ok (.iload 4, 2) := by decide +kernel
theorem dX8_copyState_15 : decode cX8_copyState 15 = .ok (.iadd, 1) := by decide +kernel
theorem dX8_copyState_16 : decode cX8_copyState 16 = .ok (.aload_n 0, 1) := by decide +kernel
theorem dX8_copyState_17 : decode cX8_copyState 17 = .ok (.iload_n 1, 1) := by decide +kernel
theorem dX8_copyState_18 : decode cX8_copyState 18 = .ok (.iload 4, 2) := by decide +kernel
theorem dX8_copyState_20 : decode cX8_copyState 20 = .ok (.iadd, 1) := by decide +kernel
theorem dX8_copyState_21 : decode cX8_copyState 21 = .ok (.iaload, 1) := by decide +kernel
theorem dX8_copyState_22 : decode cX8_copyState 22 = .ok (.iastore, 1) := by decide +kernel
theorem dX8_copyState_23 : decode cX8_copyState 23 = .ok (.iinc 4 1, 3) := by decide +kernel
theorem dX8_copyState_26 : decode cX8_copyState 26 = .ok (.goto (-23), 3) := by decide +kernel
theorem dX8_copyState_29 : decode cX8_copyState 29 = .ok (.return_, 1) := by decide +kernel
theorem dX8_record_0 : decode cX8_record 0 = .ok (.aload_n 0, 1) := by decide +kernel
theorem dX8_record_1 : decode cX8_record 1 = .ok (.getfield 42, 3) := by decide +kernel
theorem dX8_record_4 : decode cX8_record 4 = .ok (.bipush 6, 2) := by decide +kernel
theorem dX8_record_6 : decode cX8_record 6 = .ok (.if_icmp .ne 44, 3) := by decide +kernel
theorem dX8_record_9 : decode cX8_record 9 = .ok (.iconst 0, 1) := by decide +kernel
theorem dX8_record_10 : decode cX8_record 10 = .ok (.istore_n 1, 1) := by decide +kernel
theorem dX8_record_11 : decode cX8_record 11 = .ok (.iload_n 1, 1) := by decide +kernel
theorem dX8_record_12 : decode cX8_record 12 = .ok (.sipush 950, 3) := by decide +kernel
theorem dX8_record_15 : decode cX8_record 15 = .ok (.if_icmp .ge 25, 3) := by decide +kernel
theorem dX8_record_18 : decode cX8_record 18 = .ok (.aload_n 0, 1) := by decide +kernel
theorem dX8_record_19 : decode cX8_record 19 = .ok (.getfield 16, 3) := by decide +kernel
theorem dX8_record_22 : decode cX8_record 22 = .ok (.iload_n 1, 1) := by decide +kernel
theorem dX8_record_23 : decode cX8_record 23 = .ok (.aload_n 0, 1) := by decide +kernel
theorem dX8_record_24 : decode cX8_record 24 = .ok (.getfield 16, 3) := by decide +kernel
theorem dX8_record_27 : decode cX8_record 27 = .ok (.iload_n 1, 1) := by decide +kernel
theorem dX8_record_28 : decode cX8_record 28 = .ok (.sipush 190, 3) := by decide +kernel
theorem dX8_record_31 : decode cX8_record 31 = .ok (.iadd, 1) := by decide +kernel
theorem dX8_record_32 : decode cX8_record 32 = .ok (.iaload, 1) := by decide +kernel
theorem dX8_record_33 : decode cX8_record 33 = .ok (.iastore, 1) := by decide +kernel
theorem dX8_record_34 : decode cX8_record 34 = .ok (.iinc 1 1, 3) := by decide +kernel
theorem dX8_record_37 : decode cX8_record 37 = .ok (.goto (-26), 3) := by decide +kernel
theorem dX8_record_40 : decode cX8_record 40 = .ok (.aload_n 0, 1) := by decide +kernel
theorem dX8_record_41 : decode cX8_record 41 = .ok (.dup, 1) := by decide +kernel
theorem dX8_record_42 : decode cX8_record 42 = .ok (.getfield 42, 3) := by decide +kernel
theorem dX8_record_45 : decode cX8_record 45 = .ok (.iconst 1, 1) := by decide +kernel
theorem dX8_record_46 : decode cX8_record 46 = .ok (.isub, 1) := by decide +kernel
theorem dX8_record_47 : decode cX8_record 47 = .ok (.putfield 42, 3) := by decide +kernel
theorem dX8_record_50 : decode cX8_record 50 = .ok (.aload_n 0, 1) := by decide +kernel
theorem dX8_record_51 : decode cX8_record 51 = .ok (.getfield 7, 3) := by decide +kernel
theorem dX8_record_54 : decode cX8_record 54 = .ok (.iconst 0, 1) := by decide +kernel
theorem dX8_record_55 : decode cX8_record 55 = .ok (.aload_n 0, 1) := by decide +kernel
theorem dX8_record_56 : decode cX8_record 56 = .ok (.getfield 16, 3) := by decide +kernel
theorem dX8_record_59 : decode cX8_record 59 = .ok (.sipush 190, 3) := by decide +kernel
theorem dX8_record_62 : decode cX8_record 62 = .ok (.aload_n 0, 1) := by decide +kernel
theorem dX8_record_63 : decode cX8_record 63 = .ok (.getfield 42, 3) := by decide +kernel
theorem dX8_record_66 : decode cX8_record 66 = .ok (.imul, 1) := by decide +kernel
theorem dX8_record_67 : decode cX8_record 67 = .ok (.invokestatic 46, 3) := by decide +kernel
theorem dX8_record_70 : decode cX8_record 70 = .ok (.aload_n 0, 1) := by decide +kernel
theorem dX8_record_71 : decode cX8_record 71 = .ok (.dup, 1) := by decide +kernel
theorem dX8_record_72 : decode cX8_record 72 = .ok (.getfield 42, 3) := by decide +kernel
theorem dX8_record_75 : decode cX8_record 75 = .ok (.iconst 1, 1) := by decide +kernel
theorem dX8_record_76 : decode cX8_record 76 = .ok (.iadd, 1) := by decide +kernel
theorem dX8_record_77 : decode cX8_record 77 = .ok (.putfield 42, 3) := by decide +kernel
theorem dX8_record_80 : decode cX8_record 80 = .ok (.return_, 1) := by decide +kernel
theorem dX8_undo_0 : decode cX8_undo 0 = .ok (.aload_n 0, 1) := by decide +kernel
theorem dX8_undo_1 : decode cX8_undo 1 = .ok (.getfield 42, 3) := by decide +kernel
theorem dX8_undo_4 : decode cX8_undo 4 = .ok (.ifCond .ne 6, 3) := by decide +kernel
theorem dX8_undo_7 : decode cX8_undo 7 = .ok (.bipush (-5), 2) := by decide +kernel
theorem dX8_undo_9 : decode cX8_undo 9 = .ok (.ireturn, 1) := by decide +kernel
theorem dX8_undo_10 : decode cX8_undo 10 = .ok (.aload_n 0, 1) := by decide +kernel
theorem dX8_undo_11 : decode cX8_undo 11 = .ok (.dup, 1) := by decide +kernel
theorem dX8_undo_12 : decode cX8_undo 12 = .ok (.getfield 42, 3) := by decide +kernel
theorem dX8_undo_15 : decode cX8_undo 15 = .ok (.iconst 1, 1) := by decide +kernel
theorem dX8_undo_16 : decode cX8_undo 16 = .ok (.isub, 1) := by decide +kernel
theorem dX8_undo_17 : decode cX8_undo 17 = .ok (.putfield 42, 3) := by decide +kernel
theorem dX8_undo_20 : decode cX8_undo 20 = .ok (.aload_n 0, 1) := by decide +kernel
theorem dX8_undo_21 : decode cX8_undo 21 = .ok (.getfield 16, 3) := by decide +kernel
theorem dX8_undo_24 : decode cX8_undo 24 = .ok (.sipush 190, 3) := by decide +kernel
theorem dX8_undo_27 : decode cX8_undo 27 = .ok (.aload_n 0, 1) := by decide +kernel
theorem dX8_undo_28 : decode cX8_undo 28 = .ok (.getfield 42, 3) := by decide +kernel
theorem dX8_undo_31 : decode cX8_undo 31 = .ok (.imul, 1) := by decide +kernel
theorem dX8_undo_32 : decode cX8_undo 32 = .ok (.aload_n 0, 1) := by decide +kernel
theorem dX8_undo_33 : decode cX8_undo 33 = .ok (.getfield 7, 3) := by decide +kernel
theorem dX8_undo_36 : decode cX8_undo 36 = .ok (.iconst 0, 1) := by decide +kernel
theorem dX8_undo_37 : decode cX8_undo 37 = .ok (.invokestatic 46, 3) := by decide +kernel
theorem dX8_undo_40 : decode cX8_undo 40 = .ok (.aload_n 0, 1) := by decide +kernel
theorem dX8_undo_41 : decode cX8_undo 41 = .ok (.getfield 42, 3) := by decide +kernel
theorem dX8_undo_44 : decode cX8_undo 44 = .ok (.ireturn, 1) := by decide +kernel
theorem dX8_save_0 : decode cX8_save 0 = .ok (.iload_n 1, 1) := by decide +kernel
theorem dX8_save_1 : decode cX8_save 1 = .ok (.iconst 0, 1) := by decide +kernel
theorem dX8_save_2 : decode cX8_save 2 = .ok (.iconst 1, 1) := by decide +kernel
theorem dX8_save_3 : decode cX8_save 3 = .ok (.invokestatic 38, 3) := by decide +kernel
theorem dX8_save_6 : decode cX8_save 6 = .ok (.ifCond .ne 6, 3) := by decide +kernel
theorem dX8_save_9 : decode cX8_save 9 = .ok (.bipush (-2), 2) := by decide +kernel
theorem dX8_save_11 : decode cX8_save 11 = .ok (.ireturn, 1) := by decide +kernel
theorem dX8_save_12 : decode cX8_save 12 = .ok (.aload_n 0, 1) := by decide +kernel
theorem dX8_save_13 : decode cX8_save 13 = .ok (.getfield 7, 3) := by decide +kernel
theorem dX8_save_16 : decode cX8_save 16 = .ok (.iconst 0, 1) := by decide +kernel
theorem dX8_save_17 : decode cX8_save 17 = .ok (.aload_n 0, 1) := by decide +kernel
theorem dX8_save_18 : decode cX8_save 18 = .ok (.getfield 19, 3) := by decide +kernel
theorem dX8_save_21 : decode cX8_save 21 = .ok (.sipush 190, 3) := by decide +kernel
theorem dX8_save_24 : decode cX8_save 24 = .ok (.iload_n 1, 1) := by decide +kernel
theorem dX8_save_25 : decode cX8_save 25 = .ok (.imul, 1) := by decide +kernel
theorem dX8_save_26 : decode cX8_save 26 = .ok (.invokestatic 46, 3) := by decide +kernel
theorem dX8_save_29 : decode cX8_save 29 = .ok (.aload_n 0, 1) := by decide +kernel
theorem dX8_save_30 : decode cX8_save 30 = .ok (.getfield 22, 3) := by decide +kernel
theorem dX8_save_33 : decode cX8_save 33 = .ok (.iload_n 1, 1) := by decide +kernel
theorem dX8_save_34 : decode cX8_save 34 = .ok (.iconst 1, 1) := by decide +kernel
theorem dX8_save_35 : decode cX8_save 35 = .ok (.bastore, 1) := by decide +kernel
theorem dX8_save_36 : decode cX8_save 36 = .ok (.aload_n 0, 1) := by decide +kernel
theorem dX8_save_37 : decode cX8_save 37 = .ok (.getfield 7, 3) := by decide +kernel
theorem dX8_save_40 : decode cX8_save 40 = .ok (.sipush 174, 3) := by decide +kernel
theorem dX8_save_43 : decode cX8_save 43 = .ok (.iaload, 1) := by decide +kernel
theorem dX8_save_44 : decode cX8_save 44 = .ok (.ireturn, 1) := by decide +kernel
theorem dX8_restore_0 : decode cX8_restore 0 = .ok (.iload_n 1, 1) := by decide +kernel
theorem dX8_restore_1 : decode cX8_restore 1 = .ok (.iconst 0, 1) := by decide +kernel
theorem dX8_restore_2 : decode cX8_restore 2 = .ok (.iconst 1, 1) := by decide +kernel
theorem dX8_restore_3 : decode cX8_restore 3 = .ok (.invokestatic 38, 3) := by decide +kernel
theorem dX8_restore_6 : decode cX8_restore 6 = .ok (.ifCond .ne 6, 3) := by decide +kernel
theorem dX8_restore_9 : decode cX8_restore 9 = .ok (.bipush (-2), 2) := by decide +kernel
theorem dX8_restore_11 : decode cX8_restore 11 = .ok (.ireturn, 1) := by decide +kernel
theorem dX8_restore_12 : decode cX8_restore 12 = .ok (.aload_n 0, 1) := by decide +kernel
theorem dX8_restore_13 : decode cX8_restore 13 = .ok (.getfield 22, 3) := by decide +kernel
theorem dX8_restore_16 : decode cX8_restore 16 = .ok (.iload_n 1, 1) := by decide +kernel
theorem dX8_restore_17 : decode cX8_restore 17 = .ok (.baload, 1) := by decide +kernel
theorem dX8_restore_18 : decode cX8_restore 18 = .ok (.ifCond .ne 6, 3) := by decide +kernel
theorem dX8_restore_21 : decode cX8_restore 21 = .ok (.bipush (-5), 2) := by decide +kernel
theorem dX8_restore_23 : decode cX8_restore 23 = .ok (.ireturn, 1) := by decide +kernel
theorem dX8_restore_24 : decode cX8_restore 24 = .ok (.aload_n 0, 1) := by decide +kernel
theorem dX8_restore_25 : decode cX8_restore 25 = .ok (.invokevirtual 50, 3) := by decide +kernel
theorem dX8_restore_28 : decode cX8_restore 28 = .ok (.aload_n 0, 1) := by decide +kernel
theorem dX8_restore_29 : decode cX8_restore 29 = .ok (.getfield 19, 3) := by decide +kernel
theorem dX8_restore_32 : decode cX8_restore 32 = .ok (.sipush 190, 3) := by decide +kernel
theorem dX8_restore_35 : decode cX8_restore 35 = .ok (.iload_n 1, 1) := by decide +kernel
theorem dX8_restore_36 : decode cX8_restore 36 = .ok (.imul, 1) := by decide +kernel
theorem dX8_restore_37 : decode cX8_restore 37 = .ok (.aload_n 0, 1) := by decide +kernel
theorem dX8_restore_38 : decode cX8_restore 38 = .ok (.getfield 7, 3) := by decide +kernel
theorem dX8_restore_41 : decode cX8_restore 41 = .ok (.iconst 0, 1) := by decide +kernel
theorem dX8_restore_42 : decode cX8_restore 42 = .ok (.invokestatic 46, 3) := by decide +kernel
theorem dX8_restore_45 : decode cX8_restore 45 = .ok (.aload_n 0, 1) := by decide +kernel
theorem dX8_restore_46 : decode cX8_restore 46 = .ok (.getfield 7, 3) := by decide +kernel
theorem dX8_restore_49 : decode cX8_restore 49 = .ok (.sipush 174, 3) := by decide +kernel
theorem dX8_restore_52 : decode cX8_restore 52 = .ok (.iaload, 1) := by decide +kernel
theorem dX8_restore_53 : decode cX8_restore 53 = .ok (.ireturn, 1) := by decide +kernel
theorem dX8_beginNow_0 : decode cX8_beginNow 0 = .ok (.sipush 174, 3) := by decide +kernel
theorem dX8_beginNow_3 : decode cX8_beginNow 3 = .ok (.istore_n 1, 1) := by decide +kernel
theorem dX8_beginNow_4 : decode cX8_beginNow 4 = .ok (.iload_n 1, 1) := by decide +kernel
theorem dX8_beginNow_5 : decode cX8_beginNow 5 = .ok (.sipush 190, 3) := by decide +kernel
theorem dX8_beginNow_8 : decode cX8_beginNow 8 = .ok (.if_icmp .ge 16, 3) := by decide +kernel
theorem dX8_beginNow_11 : decode cX8_beginNow 11 = .ok (.aload_n 0, 1) := by decide +kernel
theorem dX8_beginNow_12 : decode cX8_beginNow 12 = .ok (.getfield 7, 3) := by decide +kernel
theorem dX8_beginNow_15 : decode cX8_beginNow 15 = .ok (.iload_n 1, 1) := by decide +kernel
theorem dX8_beginNow_16 : decode cX8_beginNow 16 = .ok (.iconst 0, 1) := by decide +kernel
theorem dX8_beginNow_17 : decode cX8_beginNow 17 = .ok (.iastore, 1) := by decide +kernel
theorem dX8_beginNow_18 : decode cX8_beginNow 18 = .ok (.iinc 1 1, 3) := by decide +kernel
theorem dX8_beginNow_21 : decode cX8_beginNow 21 = .ok (.goto (-17), 3) := by decide +kernel
theorem dX8_beginNow_24 : decode cX8_beginNow 24 = .ok (.aload_n 0, 1) := by decide +kernel
theorem dX8_beginNow_25 : decode cX8_beginNow 25 = .ok (.getfield 7, 3) := by decide +kernel
theorem dX8_beginNow_28 : decode cX8_beginNow 28 = .ok (.sipush 181, 3) := by decide +kernel
theorem dX8_beginNow_31 : decode cX8_beginNow 31 = .ok (.aload_n 0, 1) := by decide +kernel
theorem dX8_beginNow_32 : decode cX8_beginNow 32 = .ok (.getfield 7, 3) := by decide +kernel
theorem dX8_beginNow_35 : decode cX8_beginNow 35 = .ok (.iconst 4, 1) := by decide +kernel
theorem dX8_beginNow_36 : decode cX8_beginNow 36 = .ok (.iaload, 1) := by decide +kernel
theorem dX8_beginNow_37 : decode cX8_beginNow 37 = .ok (.iastore, 1) := by decide +kernel
theorem dX8_beginNow_38 : decode cX8_beginNow 38 = .ok (.return_, 1) := by decide +kernel
theorem dX8_climb_0 : decode cX8_climb 0 = .ok (.aload_n 0, 1) := by decide +kernel
theorem dX8_climb_1 : decode cX8_climb 1 = .ok (.aload_n 0, 1) := by decide +kernel
theorem dX8_climb_2 : decode cX8_climb 2 = .ok (.getfield 7, 3) := by decide +kernel
theorem dX8_climb_5 : decode cX8_climb 5 = .ok (.sipush 179, 3) := by decide +kernel
theorem dX8_climb_8 : decode cX8_climb 8 = .ok (.iaload, 1) := by decide +kernel
theorem dX8_climb_9 : decode cX8_climb 9 = .ok (.iconst 1, 1) := by decide +kernel
theorem dX8_climb_10 : decode cX8_climb 10 = .ok (.invokevirtual 53, 3) := by decide +kernel
theorem dX8_climb_13 : decode cX8_climb 13 = .ok (.istore_n 1, 1) := by decide +kernel
theorem dX8_climb_14 : decode cX8_climb 14 = .ok (.iload_n 1, 1) := by decide +kernel
theorem dX8_climb_15 : decode cX8_climb 15 = .ok (.ifCond .le 7, 3) := by decide +kernel
theorem dX8_climb_18 : decode cX8_climb 18 = .ok (.iload_n 1, 1) := by decide +kernel
theorem dX8_climb_19 : decode cX8_climb 19 = .ok (.goto 4, 3) := by decide +kernel
theorem dX8_climb_22 : decode cX8_climb 22 = .ok (.iconst 0, 1) := by decide +kernel
theorem dX8_climb_23 : decode cX8_climb 23 = .ok (.ireturn, 1) := by decide +kernel
theorem dX8_step_0 : decode cX8_step 0 = .ok (.aload_n 0, 1) := by decide +kernel
theorem dX8_step_1 : decode cX8_step 1 = .ok (.getfield 7, 3) := by decide +kernel
theorem dX8_step_4 : decode cX8_step 4 = .ok (.sipush 189, 3) := by decide +kernel
theorem dX8_step_7 : decode cX8_step 7 = .ok (.dup2, 1) := by decide +kernel
theorem dX8_step_8 : decode cX8_step 8 = .ok (.iaload, 1) := by decide +kernel
theorem dX8_step_9 : decode cX8_step 9 = .ok (.iconst 1, 1) := by decide +kernel
theorem dX8_step_10 : decode cX8_step 10 = .ok (.iadd, 1) := by decide +kernel
theorem dX8_step_11 : decode cX8_step 11 = .ok (.iastore, 1) := by decide +kernel
theorem dX8_step_12 : decode cX8_step 12 = .ok (.aload_n 0, 1) := by decide +kernel
theorem dX8_step_13 : decode cX8_step 13 = .ok (.aload_n 0, 1) := by decide +kernel
theorem dX8_step_14 : decode cX8_step 14 = .ok (.getfield 7, 3) := by decide +kernel
theorem dX8_step_17 : decode cX8_step 17 = .ok (.sipush 179, 3) := by decide +kernel
theorem dX8_step_20 : decode cX8_step 20 = .ok (.iaload, 1) := by decide +kernel
theorem dX8_step_21 : decode cX8_step 21 = .ok (.iconst 2, 1) := by decide +kernel
theorem dX8_step_22 : decode cX8_step 22 = .ok (.invokevirtual 53, 3) := by decide +kernel
theorem dX8_step_25 : decode cX8_step 25 = .ok (.iconst 1, 1) := by decide +kernel
theorem dX8_step_26 : decode cX8_step 26 = .ok (.if_icmp .ne 34, 3) := by decide +kernel
theorem dX8_step_29 : decode cX8_step 29 = .ok (.aload_n 0, 1) := by decide +kernel
theorem dX8_step_30 : decode cX8_step 30 = .ok (.getfield 7, 3) := by decide +kernel
theorem dX8_step_33 : decode cX8_step 33 = .ok (.sipush 189, 3) := by decide +kernel
theorem dX8_step_36 : decode cX8_step 36 = .ok (.iaload, 1) := by decide +kernel
theorem dX8_step_37 : decode cX8_step 37 = .ok (.aload_n 0, 1) := by decide +kernel
theorem dX8_step_38 : decode cX8_step 38 = .ok (.getfield 7, 3) := by decide +kernel
theorem dX8_step_41 : decode cX8_step 41 = .ok (.iconst 5, 1) := by decide +kernel
theorem dX8_step_42 : decode cX8_step 42 = .ok (.iaload, 1) := by decide +kernel
theorem dX8_step_43 : decode cX8_step 43 = .ok (.irem, 1) := by decide +kernel
theorem dX8_step_44 : decode cX8_step 44 = .ok (.ifCond .ne 16, 3) := by decide +kernel
theorem dX8_step_47 : decode cX8_step 47 = .ok (.aload_n 0, 1) := by decide +kernel
theorem dX8_step_48 : decode cX8_step 48 = .ok (.getfield 7, 3) := by decide +kernel
theorem dX8_step_51 : decode cX8_step 51 = .ok (.sipush 184, 3) := by decide +kernel
theorem dX8_step_54 : decode cX8_step 54 = .ok (.dup2, 1) := by decide +kernel
theorem dX8_step_55 : decode cX8_step 55 = .ok (.iaload, 1) := by decide +kernel
theorem dX8_step_56 : decode cX8_step 56 = .ok (.iconst 1, 1) := by decide +kernel
theorem dX8_step_57 : decode cX8_step 57 = .ok (.iadd, 1) := by decide +kernel
theorem dX8_step_58 : decode cX8_step 58 = .ok (.iastore, 1) := by decide +kernel
theorem dX8_step_59 : decode cX8_step 59 = .ok (.return_, 1) := by decide +kernel
theorem dX8_step_60 : decode cX8_step 60 = .ok (.aload_n 0, 1) := by decide +kernel
theorem dX8_step_61 : decode cX8_step 61 = .ok (.getfield 7, 3) := by decide +kernel
theorem dX8_step_64 : decode cX8_step 64 = .ok (.sipush 180, 3) := by decide +kernel
theorem dX8_step_67 : decode cX8_step 67 = .ok (.dup2, 1) := by decide +kernel
theorem dX8_step_68 : decode cX8_step 68 = .ok (.iaload, 1) := by decide +kernel
theorem dX8_step_69 : decode cX8_step 69 = .ok (.iconst 1, 1) := by decide +kernel
theorem dX8_step_70 : decode cX8_step 70 = .ok (.iadd, 1) := by decide +kernel
theorem dX8_step_71 : decode cX8_step 71 = .ok (.iastore, 1) := by decide +kernel
theorem dX8_step_72 : decode cX8_step 72 = .ok (.aload_n 0, 1) := by decide +kernel
theorem dX8_step_73 : decode cX8_step 73 = .ok (.getfield 7, 3) := by decide +kernel
theorem dX8_step_76 : decode cX8_step 76 = .ok (.sipush 183, 3) := by decide +kernel
theorem dX8_step_79 : decode cX8_step 79 = .ok (.dup2, 1) := by decide +kernel
theorem dX8_step_80 : decode cX8_step 80 = .ok (.iaload, 1) := by decide +kernel
theorem dX8_step_81 : decode cX8_step 81 = .ok (.iconst 1, 1) := by decide +kernel
theorem dX8_step_82 : decode cX8_step 82 = .ok (.iadd, 1) := by decide +kernel
theorem dX8_step_83 : decode cX8_step 83 = .ok (.iastore, 1) := by decide +kernel
theorem dX8_step_84 : decode cX8_step 84 = .ok (.aload_n 0, 1) := by decide +kernel
theorem dX8_step_85 : decode cX8_step 85 = .ok (.getfield 7, 3) := by decide +kernel
theorem dX8_step_88 : decode cX8_step 88 = .ok (.sipush 180, 3) := by decide +kernel
theorem dX8_step_91 : decode cX8_step 91 = .ok (.iaload, 1) := by decide +kernel
theorem dX8_step_92 : decode cX8_step 92 = .ok (.aload_n 0, 1) := by decide +kernel
theorem dX8_step_93 : decode cX8_step 93 = .ok (.aload_n 0, 1) := by decide +kernel
theorem dX8_step_94 : decode cX8_step 94 = .ok (.getfield 7, 3) := by decide +kernel
theorem dX8_step_97 : decode cX8_step 97 = .ok (.sipush 179, 3) := by decide +kernel
theorem dX8_step_100 : decode cX8_step 100 = .ok (.iaload, 1) := by decide +kernel
theorem dX8_step_101 : decode cX8_step 101 = .ok (.iconst 0, 1) := by decide +kernel
theorem dX8_step_102 : decode cX8_step 102 = .ok (.invokevirtual 53, 3) := by decide +kernel
theorem dX8_step_105 : decode cX8_step 105 = .ok (.if_icmp .ne 69, 3) := by decide +kernel
theorem dX8_step_108 : decode cX8_step 108 = .ok (.aload_n 0, 1) := by decide +kernel
theorem dX8_step_109 : decode cX8_step 109 = .ok (.iconst 1, 1) := by decide +kernel
theorem dX8_step_110 : decode cX8_step 110 = .ok (.putfield 57, 3) := by decide +kernel
theorem dX8_step_113 : decode cX8_step 113 = .ok (.aload_n 0, 1) := by decide +kernel
theorem dX8_step_114 : decode cX8_step 114 = .ok (.getfield 7, 3) := by decide +kernel
theorem dX8_step_117 : decode cX8_step 117 = .ok (.sipush 179, 3) := by decide +kernel
theorem dX8_step_120 : decode cX8_step 120 = .ok (.dup2, 1) := by decide +kernel
theorem dX8_step_121 : decode cX8_step 121 = .ok (.iaload, 1) := by decide +kernel
theorem dX8_step_122 : decode cX8_step 122 = .ok (.iconst 1, 1) := by decide +kernel
theorem dX8_step_123 : decode cX8_step 123 = .ok (.iadd, 1) := by decide +kernel
theorem dX8_step_124 : decode cX8_step 124 = .ok (.iastore, 1) := by decide +kernel
theorem dX8_step_125 : decode cX8_step 125 = .ok (.aload_n 0, 1) := by decide +kernel
theorem dX8_step_126 : decode cX8_step 126 = .ok (.getfield 7, 3) := by decide +kernel
theorem dX8_step_129 : decode cX8_step 129 = .ok (.sipush 180, 3) := by decide +kernel
theorem dX8_step_132 : decode cX8_step 132 = .ok (.iconst 0, 1) := by decide +kernel
theorem dX8_step_133 : decode cX8_step 133 = .ok (.iastore, 1) := by decide +kernel
theorem dX8_step_134 : decode cX8_step 134 = .ok (.aload_n 0, 1) := by decide +kernel
theorem dX8_step_135 : decode cX8_step 135 = .ok (.getfield 7, 3) := by decide +kernel
theorem dX8_step_138 : decode cX8_step 138 = .ok (.sipush 189, 3) := by decide +kernel
theorem dX8_step_141 : decode cX8_step 141 = .ok (.iconst 0, 1) := by decide +kernel
theorem dX8_step_142 : decode cX8_step 142 = .ok (.iastore, 1) := by decide +kernel
theorem dX8_step_143 : decode cX8_step 143 = .ok (.aload_n 0, 1) := by decide +kernel
theorem dX8_step_144 : decode cX8_step 144 = .ok (.getfield 7, 3) := by decide +kernel
theorem dX8_step_147 : decode cX8_step 147 = .ok (.sipush 188, 3) := by decide +kernel
theorem dX8_step_150 : decode cX8_step 150 = .ok (.aload_n 0, 1) := by decide +kernel
theorem dX8_step_151 : decode cX8_step 151 = .ok (.getfield 7, 3) := by decide +kernel
theorem dX8_step_154 : decode cX8_step 154 = .ok (.sipush 179, 3) := by decide +kernel
theorem dX8_step_157 : decode cX8_step 157 = .ok (.iaload, 1) := by decide +kernel
theorem dX8_step_158 : decode cX8_step 158 = .ok (.aload_n 0, 1) := by decide +kernel
theorem dX8_step_159 : decode cX8_step 159 = .ok (.getfield 7, 3) := by decide +kernel
theorem dX8_step_162 : decode cX8_step 162 = .ok (.bipush 7, 2) := by decide +kernel
theorem dX8_step_164 : decode cX8_step 164 = .ok (.iaload, 1) := by decide +kernel
theorem dX8_step_165 : decode cX8_step 165 = .ok (.if_icmp .ne 7, 3) := by decide +kernel
theorem dX8_step_168 : decode cX8_step 168 = .ok (.iconst 1, 1) := by decide +kernel
theorem dX8_step_169 : decode cX8_step 169 = .ok (.goto 4, 3) := by decide +kernel
theorem dX8_step_172 : decode cX8_step 172 = .ok (.iconst 0, 1) := by decide +kernel
theorem dX8_step_173 : decode cX8_step 173 = .ok (.iastore, 1) := by decide +kernel
theorem dX8_step_174 : decode cX8_step 174 = .ok (.return_, 1) := by decide +kernel
theorem dX8_goOn_0 : decode cX8_goOn 0 = .ok (.aload_n 0, 1) := by decide +kernel
theorem dX8_goOn_1 : decode cX8_goOn 1 = .ok (.getfield 7, 3) := by decide +kernel
theorem dX8_goOn_4 : decode cX8_goOn 4 = .ok (.sipush 176, 3) := by decide +kernel
theorem dX8_goOn_7 : decode cX8_goOn 7 = .ok (.iaload, 1) := by decide +kernel
theorem dX8_goOn_8 : decode cX8_goOn 8 = .ok (.istore_n 1, 1) := by decide +kernel
theorem dX8_goOn_9 : decode cX8_goOn 9 = .ok (.aload_n 0, 1) := by decide +kernel
theorem dX8_goOn_10 : decode cX8_goOn 10 = .ok (.getfield 7, 3) := by decide +kernel
theorem dX8_goOn_13 : decode cX8_goOn 13 = .ok (.sipush 177, 3) := by decide +kernel
theorem dX8_goOn_16 : decode cX8_goOn 16 = .ok (.iaload, 1) := by decide +kernel
theorem dX8_goOn_17 : decode cX8_goOn 17 = .ok (.istore_n 2, 1) := by decide +kernel
theorem dX8_goOn_18 : decode cX8_goOn 18 = .ok (.aload_n 0, 1) := by decide +kernel
theorem dX8_goOn_19 : decode cX8_goOn 19 = .ok (.getfield 7, 3) := by decide +kernel
theorem dX8_goOn_22 : decode cX8_goOn 22 = .ok (.sipush 178, 3) := by decide +kernel
theorem dX8_goOn_25 : decode cX8_goOn 25 = .ok (.dup2, 1) := by decide +kernel
theorem dX8_goOn_26 : decode cX8_goOn 26 = .ok (.iaload, 1) := by decide +kernel
theorem dX8_goOn_27 : decode cX8_goOn 27 = .ok (.iconst 1, 1) := by decide +kernel
theorem dX8_goOn_28 : decode cX8_goOn 28 = .ok (.iadd, 1) := by decide +kernel
theorem dX8_goOn_29 : decode cX8_goOn 29 = .ok (.iastore, 1) := by decide +kernel
theorem dX8_goOn_30 : decode cX8_goOn 30 = .ok (.aload_n 0, 1) := by decide +kernel
theorem dX8_goOn_31 : decode cX8_goOn 31 = .ok (.getfield 7, 3) := by decide +kernel
theorem dX8_goOn_34 : decode cX8_goOn 34 = .ok (.sipush 178, 3) := by decide +kernel
theorem dX8_goOn_37 : decode cX8_goOn 37 = .ok (.iaload, 1) := by decide +kernel
theorem dX8_goOn_38 : decode cX8_goOn 38 = .ok (.aload_n 0, 1) := by decide +kernel
theorem dX8_goOn_39 : decode cX8_goOn 39 = .ok (.iload_n 1, 1) := by decide +kernel
theorem dX8_goOn_40 : decode cX8_goOn 40 = .ok (.iload_n 2, 1) := by decide +kernel
theorem dX8_goOn_41 : decode cX8_goOn 41 = .ok (.invokevirtual 61, 3) := by decide +kernel
theorem dX8_goOn_44 : decode cX8_goOn 44 = .ok (.if_icmp .ge 4, 3) := by decide +kernel
theorem dX8_goOn_47 : decode cX8_goOn 47 = .ok (.return_, 1) := by decide +kernel
theorem dX8_goOn_48 : decode cX8_goOn 48 = .ok (.aload_n 0, 1) := by decide +kernel
theorem dX8_goOn_49 : decode cX8_goOn 49 = .ok (.getfield 7, 3) := by decide +kernel
theorem dX8_goOn_52 : decode cX8_goOn 52 = .ok (.sipush 178, 3) := by decide +kernel
theorem dX8_goOn_55 : decode cX8_goOn 55 = .ok (.iconst 0, 1) := by decide +kernel
theorem dX8_goOn_56 : decode cX8_goOn 56 = .ok (.iastore, 1) := by decide +kernel
theorem dX8_goOn_57 : decode cX8_goOn 57 = .ok (.aload_n 0, 1) := by decide +kernel
theorem dX8_goOn_58 : decode cX8_goOn 58 = .ok (.getfield 7, 3) := by decide +kernel
theorem dX8_goOn_61 : decode cX8_goOn 61 = .ok (.sipush 182, 3) := by decide +kernel
theorem dX8_goOn_64 : decode cX8_goOn 64 = .ok (.aload_n 0, 1) := by decide +kernel
theorem dX8_goOn_65 : decode cX8_goOn 65 = .ok (.iload_n 1, 1) := by decide +kernel
theorem dX8_goOn_66 : decode cX8_goOn 66 = .ok (.iload_n 2, 1) := by decide +kernel
theorem dX8_goOn_67 : decode cX8_goOn 67 = .ok (.invokevirtual 64, 3) := by decide +kernel
theorem dX8_goOn_70 : decode cX8_goOn 70 = .ok (.ifCond .eq 12, 3) := by decide +kernel
theorem dX8_goOn_73 : decode cX8_goOn 73 = .ok (.aload_n 0, 1) := by decide +kernel
theorem dX8_goOn_74 : decode cX8_goOn 74 = .ok (.getfield 7, 3) := by decide +kernel
theorem dX8_goOn_77 : decode cX8_goOn 77 = .ok (.iconst 1, 1) := by decide +kernel
theorem dX8_goOn_78 : decode cX8_goOn 78 = .ok (.iaload, 1) := by decide +kernel
theorem dX8_goOn_79 : decode cX8_goOn 79 = .ok (.goto 4, 3) := by decide +kernel
theorem dX8_goOn_82 : decode cX8_goOn 82 = .ok (.iconst 0, 1) := by decide +kernel
theorem dX8_goOn_83 : decode cX8_goOn 83 = .ok (.iastore, 1) := by decide +kernel
theorem dX8_goOn_84 : decode cX8_goOn 84 = .ok (.aload_n 0, 1) := by decide +kernel
theorem dX8_goOn_85 : decode cX8_goOn 85 = .ok (.getfield 7, 3) := by decide +kernel
theorem dX8_goOn_88 : decode cX8_goOn 88 = .ok (.sipush 177, 3) := by decide +kernel
theorem dX8_goOn_91 : decode cX8_goOn 91 = .ok (.dup2, 1) := by decide +kernel
theorem dX8_goOn_92 : decode cX8_goOn 92 = .ok (.iaload, 1) := by decide +kernel
theorem dX8_goOn_93 : decode cX8_goOn 93 = .ok (.iconst 1, 1) := by decide +kernel
theorem dX8_goOn_94 : decode cX8_goOn 94 = .ok (.iadd, 1) := by decide +kernel
theorem dX8_goOn_95 : decode cX8_goOn 95 = .ok (.iastore, 1) := by decide +kernel
theorem dX8_goOn_96 : decode cX8_goOn 96 = .ok (.aload_n 0, 1) := by decide +kernel
theorem dX8_goOn_97 : decode cX8_goOn 97 = .ok (.getfield 7, 3) := by decide +kernel
theorem dX8_goOn_100 : decode cX8_goOn 100 = .ok (.sipush 177, 3) := by decide +kernel
theorem dX8_goOn_103 : decode cX8_goOn 103 = .ok (.iaload, 1) := by decide +kernel
theorem dX8_goOn_104 : decode cX8_goOn 104 = .ok (.aload_n 0, 1) := by decide +kernel
theorem dX8_goOn_105 : decode cX8_goOn 105 = .ok (.getfield 7, 3) := by decide +kernel
theorem dX8_goOn_108 : decode cX8_goOn 108 = .ok (.bipush 8, 2) := by decide +kernel
theorem dX8_goOn_110 : decode cX8_goOn 110 = .ok (.iload_n 1, 1) := by decide +kernel
theorem dX8_goOn_111 : decode cX8_goOn 111 = .ok (.iadd, 1) := by decide +kernel
theorem dX8_goOn_112 : decode cX8_goOn 112 = .ok (.iaload, 1) := by decide +kernel
theorem dX8_goOn_113 : decode cX8_goOn 113 = .ok (.if_icmp .ne 24, 3) := by decide +kernel
theorem dX8_goOn_116 : decode cX8_goOn 116 = .ok (.aload_n 0, 1) := by decide +kernel
theorem dX8_goOn_117 : decode cX8_goOn 117 = .ok (.getfield 7, 3) := by decide +kernel
theorem dX8_goOn_120 : decode cX8_goOn 120 = .ok (.sipush 177, 3) := by decide +kernel
theorem dX8_goOn_123 : decode cX8_goOn 123 = .ok (.iconst 0, 1) := by decide +kernel
theorem dX8_goOn_124 : decode cX8_goOn 124 = .ok (.iastore, 1) := by decide +kernel
theorem dX8_goOn_125 : decode cX8_goOn 125 = .ok (.aload_n 0, 1) := by decide +kernel
theorem dX8_goOn_126 : decode cX8_goOn 126 = .ok (.getfield 7, 3) := by decide +kernel
theorem dX8_goOn_129 : decode cX8_goOn 129 = .ok (.sipush 176, 3) := by decide +kernel
theorem dX8_goOn_132 : decode cX8_goOn 132 = .ok (.dup2, 1) := by decide +kernel
theorem dX8_goOn_133 : decode cX8_goOn 133 = .ok (.iaload, 1) := by decide +kernel
theorem dX8_goOn_134 : decode cX8_goOn 134 = .ok (.iconst 1, 1) := by decide +kernel
theorem dX8_goOn_135 : decode cX8_goOn 135 = .ok (.iadd, 1) := by decide +kernel
theorem dX8_goOn_136 : decode cX8_goOn 136 = .ok (.iastore, 1) := by decide +kernel
theorem dX8_goOn_137 : decode cX8_goOn 137 = .ok (.aload_n 0, 1) := by decide +kernel
theorem dX8_goOn_138 : decode cX8_goOn 138 = .ok (.getfield 7, 3) := by decide +kernel
theorem dX8_goOn_141 : decode cX8_goOn 141 = .ok (.sipush 176, 3) := by decide +kernel
theorem dX8_goOn_144 : decode cX8_goOn 144 = .ok (.iaload, 1) := by decide +kernel
theorem dX8_goOn_145 : decode cX8_goOn 145 = .ok (.aload_n 0, 1) := by decide +kernel
theorem dX8_goOn_146 : decode cX8_goOn 146 = .ok (.getfield 7, 3) := by decide +kernel
theorem dX8_goOn_149 : decode cX8_goOn 149 = .ok (.bipush 6, 2) := by decide +kernel
theorem dX8_goOn_151 : decode cX8_goOn 151 = .ok (.iaload, 1) := by decide +kernel
theorem dX8_goOn_152 : decode cX8_goOn 152 = .ok (.if_icmp .ne 29, 3) := by decide +kernel
theorem dX8_goOn_155 : decode cX8_goOn 155 = .ok (.aload_n 0, 1) := by decide +kernel
theorem dX8_goOn_156 : decode cX8_goOn 156 = .ok (.getfield 7, 3) := by decide +kernel
theorem dX8_goOn_159 : decode cX8_goOn 159 = .ok (.sipush 176, 3) := by decide +kernel
theorem dX8_goOn_162 : decode cX8_goOn 162 = .ok (.iconst 0, 1) := by decide +kernel
theorem dX8_goOn_163 : decode cX8_goOn 163 = .ok (.iastore, 1) := by decide +kernel
theorem dX8_goOn_164 : decode cX8_goOn 164 = .ok (.aload_n 0, 1) := by decide +kernel
theorem dX8_goOn_165 : decode cX8_goOn 165 = .ok (.getfield 7, 3) := by decide +kernel
theorem dX8_goOn_168 : decode cX8_goOn 168 = .ok (.sipush 186, 3) := by decide +kernel
theorem dX8_goOn_171 : decode cX8_goOn 171 = .ok (.dup2, 1) := by decide +kernel
theorem dX8_goOn_172 : decode cX8_goOn 172 = .ok (.iaload, 1) := by decide +kernel
theorem dX8_goOn_173 : decode cX8_goOn 173 = .ok (.iconst 1, 1) := by decide +kernel
theorem dX8_goOn_174 : decode cX8_goOn 174 = .ok (.iadd, 1) := by decide +kernel
theorem dX8_goOn_175 : decode cX8_goOn 175 = .ok (.iastore, 1) := by decide +kernel
theorem dX8_goOn_176 : decode cX8_goOn 176 = .ok (.aload_n 0, 1) := by decide +kernel
theorem dX8_goOn_177 : decode cX8_goOn 177 = .ok (.iconst 1, 1) := by decide +kernel
theorem dX8_goOn_178 : decode cX8_goOn 178 = .ok (.putfield 68, 3) := by decide +kernel
theorem dX8_goOn_181 : decode cX8_goOn 181 = .ok (.return_, 1) := by decide +kernel
theorem dX8_beat_0 : decode cX8_beat 0 = .ok (.iconst 1, 1) := by decide +kernel
theorem dX8_beat_1 : decode cX8_beat 1 = .ok (.aload_n 0, 1) := by decide +kernel
theorem dX8_beat_2 : decode cX8_beat 2 = .ok (.invokevirtual 71, 3) := by decide +kernel
theorem dX8_beat_5 : decode cX8_beat 5 = .ok (.iadd, 1) := by decide +kernel
theorem dX8_beat_6 : decode cX8_beat 6 = .ok (.istore_n 1, 1) := by decide +kernel
theorem dX8_beat_7 : decode cX8_beat 7 = .ok (.aload_n 0, 1) := by decide +kernel
theorem dX8_beat_8 : decode cX8_beat 8 = .ok (.iconst 0, 1) := by decide +kernel
theorem dX8_beat_9 : decode cX8_beat 9 = .ok (.putfield 68, 3) := by decide +kernel
theorem dX8_beat_12 : decode cX8_beat 12 = .ok (.aload_n 0, 1) := by decide +kernel
theorem dX8_beat_13 : decode cX8_beat 13 = .ok (.iconst 0, 1) := by decide +kernel
theorem dX8_beat_14 : decode cX8_beat 14 = .ok (.putfield 57, 3) := by decide +kernel
theorem dX8_beat_17 : decode cX8_beat 17 = .ok (.aload_n 0, 1) := by decide +kernel
theorem dX8_beat_18 : decode cX8_beat 18 = .ok (.getfield 7, 3) := by decide +kernel
theorem dX8_beat_21 : decode cX8_beat 21 = .ok (.sipush 174, 3) := by decide +kernel
theorem dX8_beat_24 : decode cX8_beat 24 = .ok (.dup2, 1) := by decide +kernel
theorem dX8_beat_25 : decode cX8_beat 25 = .ok (.iaload, 1) := by decide +kernel
theorem dX8_beat_26 : decode cX8_beat 26 = .ok (.iconst 1, 1) := by decide +kernel
theorem dX8_beat_27 : decode cX8_beat 27 = .ok (.iadd, 1) := by decide +kernel
theorem dX8_beat_28 : decode cX8_beat 28 = .ok (.iastore, 1) := by decide +kernel
theorem dX8_beat_29 : decode cX8_beat 29 = .ok (.aload_n 0, 1) := by decide +kernel
theorem dX8_beat_30 : decode cX8_beat 30 = .ok (.getfield 7, 3) := by decide +kernel
theorem dX8_beat_33 : decode cX8_beat 33 = .ok (.sipush 182, 3) := by decide +kernel
theorem dX8_beat_36 : decode cX8_beat 36 = .ok (.iaload, 1) := by decide +kernel
theorem dX8_beat_37 : decode cX8_beat 37 = .ok (.ifCond .ne 41, 3) := by decide +kernel
theorem dX8_beat_40 : decode cX8_beat 40 = .ok (.aload_n 0, 1) := by decide +kernel
theorem dX8_beat_41 : decode cX8_beat 41 = .ok (.getfield 7, 3) := by decide +kernel
theorem dX8_beat_44 : decode cX8_beat 44 = .ok (.sipush 181, 3) := by decide +kernel
theorem dX8_beat_47 : decode cX8_beat 47 = .ok (.iaload, 1) := by decide +kernel
theorem dX8_beat_48 : decode cX8_beat 48 = .ok (.iload_n 1, 1) := by decide +kernel
theorem dX8_beat_49 : decode cX8_beat 49 = .ok (.if_icmp .ge 29, 3) := by decide +kernel
theorem dX8_beat_52 : decode cX8_beat 52 = .ok (.aload_n 0, 1) := by decide +kernel
theorem dX8_beat_53 : decode cX8_beat 53 = .ok (.getfield 7, 3) := by decide +kernel
theorem dX8_beat_56 : decode cX8_beat 56 = .ok (.sipush 185, 3) := by decide +kernel
theorem dX8_beat_59 : decode cX8_beat 59 = .ok (.dup2, 1) := by decide +kernel
theorem dX8_beat_60 : decode cX8_beat 60 = .ok (.iaload, 1) := by decide +kernel
theorem dX8_beat_61 : decode cX8_beat 61 = .ok (.iconst 1, 1) := by decide +kernel
theorem dX8_beat_62 : decode cX8_beat 62 = .ok (.iadd, 1) := by decide +kernel
theorem dX8_beat_63 : decode cX8_beat 63 = .ok (.iastore, 1) := by decide +kernel
theorem dX8_beat_64 : decode cX8_beat 64 = .ok (.aload_n 0, 1) := by decide +kernel
theorem dX8_beat_65 : decode cX8_beat 65 = .ok (.getfield 7, 3) := by decide +kernel
theorem dX8_beat_68 : decode cX8_beat 68 = .ok (.sipush 182, 3) := by decide +kernel
theorem dX8_beat_71 : decode cX8_beat 71 = .ok (.aload_n 0, 1) := by decide +kernel
theorem dX8_beat_72 : decode cX8_beat 72 = .ok (.getfield 7, 3) := by decide +kernel
theorem dX8_beat_75 : decode cX8_beat 75 = .ok (.iconst 2, 1) := by decide +kernel
theorem dX8_beat_76 : decode cX8_beat 76 = .ok (.iaload, 1) := by decide +kernel
theorem dX8_beat_77 : decode cX8_beat 77 = .ok (.iastore, 1) := by decide +kernel
theorem dX8_beat_78 : decode cX8_beat 78 = .ok (.aload_n 0, 1) := by decide +kernel
theorem dX8_beat_79 : decode cX8_beat 79 = .ok (.getfield 7, 3) := by decide +kernel
theorem dX8_beat_82 : decode cX8_beat 82 = .ok (.sipush 175, 3) := by decide +kernel
theorem dX8_beat_85 : decode cX8_beat 85 = .ok (.dup2, 1) := by decide +kernel
theorem dX8_beat_86 : decode cX8_beat 86 = .ok (.iaload, 1) := by decide +kernel
theorem dX8_beat_87 : decode cX8_beat 87 = .ok (.aload_n 0, 1) := by decide +kernel
theorem dX8_beat_88 : decode cX8_beat 88 = .ok (.getfield 7, 3) := by decide +kernel
theorem dX8_beat_91 : decode cX8_beat 91 = .ok (.iconst 0, 1) := by decide +kernel
theorem dX8_beat_92 : decode cX8_beat 92 = .ok (.iaload, 1) := by decide +kernel
theorem dX8_beat_93 : decode cX8_beat 93 = .ok (.iadd, 1) := by decide +kernel
theorem dX8_beat_94 : decode cX8_beat 94 = .ok (.iastore, 1) := by decide +kernel
theorem dX8_beat_95 : decode cX8_beat 95 = .ok (.aload_n 0, 1) := by decide +kernel
theorem dX8_beat_96 : decode cX8_beat 96 = .ok (.getfield 7, 3) := by decide +kernel
theorem dX8_beat_99 : decode cX8_beat 99 = .ok (.sipush 182, 3) := by decide +kernel
theorem dX8_beat_102 : decode cX8_beat 102 = .ok (.iaload, 1) := by decide +kernel
theorem dX8_beat_103 : decode cX8_beat 103 = .ok (.ifCond .le 72, 3) := by decide +kernel
theorem dX8_beat_106 : decode cX8_beat 106 = .ok (.aload_n 0, 1) := by decide +kernel
theorem dX8_beat_107 : decode cX8_beat 107 = .ok (.getfield 7, 3) := by decide +kernel
theorem dX8_beat_110 : decode cX8_beat 110 = .ok (.sipush 182, 3) := by decide +kernel
theorem dX8_beat_113 : decode cX8_beat 113 = .ok (.dup2, 1) := by decide +kernel
theorem dX8_beat_114 : decode cX8_beat 114 = .ok (.iaload, 1) := by decide +kernel
theorem dX8_beat_115 : decode cX8_beat 115 = .ok (.iconst 1, 1) := by decide +kernel
theorem dX8_beat_116 : decode cX8_beat 116 = .ok (.isub, 1) := by decide +kernel
theorem dX8_beat_117 : decode cX8_beat 117 = .ok (.iastore, 1) := by decide +kernel
theorem dX8_beat_118 : decode cX8_beat 118 = .ok (.aload_n 0, 1) := by decide +kernel
theorem dX8_beat_119 : decode cX8_beat 119 = .ok (.getfield 7, 3) := by decide +kernel
theorem dX8_beat_122 : decode cX8_beat 122 = .ok (.sipush 181, 3) := by decide +kernel
theorem dX8_beat_125 : decode cX8_beat 125 = .ok (.aload_n 0, 1) := by decide +kernel
theorem dX8_beat_126 : decode cX8_beat 126 = .ok (.getfield 7, 3) := by decide +kernel
theorem dX8_beat_129 : decode cX8_beat 129 = .ok (.sipush 181, 3) := by decide +kernel
theorem dX8_beat_132 : decode cX8_beat 132 = .ok (.iaload, 1) := by decide +kernel
theorem dX8_beat_133 : decode cX8_beat 133 = .ok (.aload_n 0, 1) := by decide +kernel
theorem dX8_beat_134 : decode cX8_beat 134 = .ok (.getfield 7, 3) := by decide +kernel
theorem dX8_beat_137 : decode cX8_beat 137 = .ok (.iconst 3, 1) := by decide +kernel
theorem dX8_beat_138 : decode cX8_beat 138 = .ok (.iaload, 1) := by decide +kernel
theorem dX8_beat_139 : decode cX8_beat 139 = .ok (.iadd, 1) := by decide +kernel
theorem dX8_beat_140 : decode cX8_beat 140 = .ok (.aload_n 0, 1) := by decide +kernel
theorem dX8_beat_141 : decode cX8_beat 141 = .ok (.getfield 7, 3) := by decide +kernel
theorem dX8_beat_144 : decode cX8_beat 144 = .ok (.iconst 4, 1) := by decide +kernel
theorem dX8_beat_145 : decode cX8_beat 145 = .ok (.iaload, 1) := by decide +kernel
theorem dX8_beat_146 : decode cX8_beat 146 = .ok (.if_icmp .ge 21, 3) := by decide +kernel
theorem dX8_beat_149 : decode cX8_beat 149 = .ok (.aload_n 0, 1) := by decide +kernel
theorem dX8_beat_150 : decode cX8_beat 150 = .ok (.getfield 7, 3) := by decide +kernel
theorem dX8_beat_153 : decode cX8_beat 153 = .ok (.sipush 181, 3) := by decide +kernel
theorem dX8_beat_156 : decode cX8_beat 156 = .ok (.iaload, 1) := by decide +kernel
theorem dX8_beat_157 : decode cX8_beat 157 = .ok (.aload_n 0, 1) := by decide +kernel
theorem dX8_beat_158 : decode cX8_beat 158 = .ok (.getfield 7, 3) := by decide +kernel
theorem dX8_beat_161 : decode cX8_beat 161 = .ok (.iconst 3, 1) := by decide +kernel
theorem dX8_beat_162 : decode cX8_beat 162 = .ok (.iaload, 1) := by decide +kernel
theorem dX8_beat_163 : decode cX8_beat 163 = .ok (.iadd, 1) := by decide +kernel
theorem dX8_beat_164 : decode cX8_beat 164 = .ok (.goto 9, 3) := by decide +kernel
theorem dX8_beat_167 : decode cX8_beat 167 = .ok (.aload_n 0, 1) := by decide +kernel
theorem dX8_beat_168 : decode cX8_beat 168 = .ok (.getfield 7, 3) := by decide +kernel
theorem dX8_beat_171 : decode cX8_beat 171 = .ok (.iconst 4, 1) := by decide +kernel
theorem dX8_beat_172 : decode cX8_beat 172 = .ok (.iaload, 1) := by decide +kernel
theorem dX8_beat_173 : decode cX8_beat 173 = .ok (.iastore, 1) := by decide +kernel
theorem dX8_beat_174 : decode cX8_beat 174 = .ok (.return_, 1) := by decide +kernel
theorem dX8_beat_175 : decode cX8_beat 175 = .ok (.aload_n 0, 1) := by decide +kernel
theorem dX8_beat_176 : decode cX8_beat 176 = .ok (.getfield 7, 3) := by decide +kernel
theorem dX8_beat_179 : decode cX8_beat 179 = .ok (.sipush 181, 3) := by decide +kernel
theorem dX8_beat_182 : decode cX8_beat 182 = .ok (.dup2, 1) := by decide +kernel
theorem dX8_beat_183 : decode cX8_beat 183 = .ok (.iaload, 1) := by decide +kernel
theorem dX8_beat_184 : decode cX8_beat 184 = .ok (.iload_n 1, 1) := by decide +kernel
theorem dX8_beat_185 : decode cX8_beat 185 = .ok (.isub, 1) := by decide +kernel
theorem dX8_beat_186 : decode cX8_beat 186 = .ok (.iastore, 1) := by decide +kernel
theorem dX8_beat_187 : decode cX8_beat 187 = .ok (.aload_n 0, 1) := by decide +kernel
theorem dX8_beat_188 : decode cX8_beat 188 = .ok (.getfield 7, 3) := by decide +kernel
theorem dX8_beat_191 : decode cX8_beat 191 = .ok (.sipush 175, 3) := by decide +kernel
theorem dX8_beat_194 : decode cX8_beat 194 = .ok (.dup2, 1) := by decide +kernel
theorem dX8_beat_195 : decode cX8_beat 195 = .ok (.iaload, 1) := by decide +kernel
theorem dX8_beat_196 : decode cX8_beat 196 = .ok (.aload_n 0, 1) := by decide +kernel
theorem dX8_beat_197 : decode cX8_beat 197 = .ok (.invokevirtual 71, 3) := by decide +kernel
theorem dX8_beat_200 : decode cX8_beat 200 = .ok (.iadd, 1) := by decide +kernel
theorem dX8_beat_201 : decode cX8_beat 201 = .ok (.iastore, 1) := by decide +kernel
theorem dX8_beat_202 : decode cX8_beat 202 = .ok (.aload_n 0, 1) := by decide +kernel
theorem dX8_beat_203 : decode cX8_beat 203 = .ok (.getfield 7, 3) := by decide +kernel
theorem dX8_beat_206 : decode cX8_beat 206 = .ok (.sipush 187, 3) := by decide +kernel
theorem dX8_beat_209 : decode cX8_beat 209 = .ok (.dup2, 1) := by decide +kernel
theorem dX8_beat_210 : decode cX8_beat 210 = .ok (.iaload, 1) := by decide +kernel
theorem dX8_beat_211 : decode cX8_beat 211 = .ok (.iconst 1, 1) := by decide +kernel
theorem dX8_beat_212 : decode cX8_beat 212 = .ok (.iadd, 1) := by decide +kernel
theorem dX8_beat_213 : decode cX8_beat 213 = .ok (.iastore, 1) := by decide +kernel
theorem dX8_beat_214 : decode cX8_beat 214 = .ok (.aload_n 0, 1) := by decide +kernel
theorem dX8_beat_215 : decode cX8_beat 215 = .ok (.invokevirtual 75, 3) := by decide +kernel
theorem dX8_beat_218 : decode cX8_beat 218 = .ok (.aload_n 0, 1) := by decide +kernel
theorem dX8_beat_219 : decode cX8_beat 219 = .ok (.invokevirtual 78, 3) := by decide +kernel
theorem dX8_beat_222 : decode cX8_beat 222 = .ok (.return_, 1) := by decide +kernel
theorem dX8_marchNow_0 : decode cX8_marchNow 0 = .ok (.iconst 0, 1) := by decide +kernel
theorem dX8_marchNow_1 : decode cX8_marchNow 1 = .ok (.istore_n 2, 1) := by decide +kernel
theorem dX8_marchNow_2 : decode cX8_marchNow 2 = .ok (.iload_n 2, 1) := by decide +kernel
theorem dX8_marchNow_3 : decode cX8_marchNow 3 = .ok (.iload_n 1, 1) := by decide +kernel
theorem dX8_marchNow_4 : decode cX8_marchNow 4 = .ok (.if_icmp .ge 24, 3) := by decide +kernel
theorem dX8_marchNow_7 : decode cX8_marchNow 7 = .ok (.aload_n 0, 1) := by decide +kernel
theorem dX8_marchNow_8 : decode cX8_marchNow 8 = .ok (.getfield 7, 3) := by decide +kernel
theorem dX8_marchNow_11 : decode cX8_marchNow 11 = .ok (.sipush 188, 3) := by decide +kernel
theorem dX8_marchNow_14 : decode cX8_marchNow 14 = .ok (.iaload, 1) := by decide +kernel
theorem dX8_marchNow_15 : decode cX8_marchNow 15 = .ok (.ifCond .ne 13, 3) := by decide +kernel
theorem dX8_marchNow_18 : decode cX8_marchNow 18 = .ok (.aload_n 0, 1) := by decide +kernel
theorem dX8_marchNow_19 : decode cX8_marchNow 19 = .ok (.invokevirtual 81, 3) := by decide +kernel
theorem dX8_marchNow_22 : decode cX8_marchNow 22 = .ok (.iinc 2 1, 3) := by decide +kernel
theorem dX8_marchNow_25 : decode cX8_marchNow 25 = .ok (.goto (-23), 3) := by decide +kernel
theorem dX8_marchNow_28 : decode cX8_marchNow 28 = .ok (.iload_n 2, 1) := by decide +kernel
theorem dX8_marchNow_29 : decode cX8_marchNow 29 = .ok (.ireturn, 1) := by decide +kernel
theorem dX8_march_0 : decode cX8_march 0 = .ok (.iload_n 1, 1) := by decide +kernel
theorem dX8_march_1 : decode cX8_march 1 = .ok (.iconst 1, 1) := by decide +kernel
theorem dX8_march_2 : decode cX8_march 2 = .ok (.sipush 500, 3) := by decide +kernel
theorem dX8_march_5 : decode cX8_march 5 = .ok (.invokestatic 38, 3) := by decide +kernel
theorem dX8_march_8 : decode cX8_march 8 = .ok (.ifCond .ne 6, 3) := by decide +kernel
theorem dX8_march_11 : decode cX8_march 11 = .ok (.bipush (-2), 2) := by decide +kernel
theorem dX8_march_13 : decode cX8_march 13 = .ok (.ireturn, 1) := by decide +kernel
theorem dX8_march_14 : decode cX8_march 14 = .ok (.aload_n 0, 1) := by decide +kernel
theorem dX8_march_15 : decode cX8_march 15 = .ok (.invokevirtual 84, 3) := by decide +kernel
theorem dX8_march_18 : decode cX8_march 18 = .ok (.ifCond .eq 15, 3) := by decide +kernel
theorem dX8_march_21 : decode cX8_march 21 = .ok (.aload_n 0, 1) := by decide +kernel
theorem dX8_march_22 : decode cX8_march 22 = .ok (.getfield 7, 3) := by decide +kernel
theorem dX8_march_25 : decode cX8_march 25 = .ok (.sipush 188, 3) := by decide +kernel
theorem dX8_march_28 : decode cX8_march 28 = .ok (.iaload, 1) := by decide +kernel
theorem dX8_march_29 : decode cX8_march 29 = .ok (.iconst 1, 1) := by decide +kernel
theorem dX8_march_30 : decode cX8_march 30 = .ok (.if_icmp .ne 6, 3) := by decide +kernel
theorem dX8_march_33 : decode cX8_march 33 = .ok (.bipush (-5), 2) := by decide +kernel
theorem dX8_march_35 : decode cX8_march 35 = .ok (.ireturn, 1) := by decide +kernel
theorem dX8_march_36 : decode cX8_march 36 = .ok (.aload_n 0, 1) := by decide +kernel
theorem dX8_march_37 : decode cX8_march 37 = .ok (.invokevirtual 50, 3) := by decide +kernel
theorem dX8_march_40 : decode cX8_march 40 = .ok (.aload_n 0, 1) := by decide +kernel
theorem dX8_march_41 : decode cX8_march 41 = .ok (.iload_n 1, 1) := by decide +kernel
theorem dX8_march_42 : decode cX8_march 42 = .ok (.invokevirtual 88, 3) := by decide +kernel
theorem dX8_march_45 : decode cX8_march 45 = .ok (.ireturn, 1) := by decide +kernel
theorem dX8_begin_0 : decode cX8_begin 0 = .ok (.aload_n 0, 1) := by decide +kernel
theorem dX8_begin_1 : decode cX8_begin 1 = .ok (.invokevirtual 50, 3) := by decide +kernel
theorem dX8_begin_4 : decode cX8_begin 4 = .ok (.aload_n 0, 1) := by decide +kernel
theorem dX8_begin_5 : decode cX8_begin 5 = .ok (.getfield 7, 3) := by decide +kernel
theorem dX8_begin_8 : decode cX8_begin 8 = .ok (.sipush 174, 3) := by decide +kernel
theorem dX8_begin_11 : decode cX8_begin 11 = .ok (.iaload, 1) := by decide +kernel
theorem dX8_begin_12 : decode cX8_begin 12 = .ok (.istore_n 1, 1) := by decide +kernel
theorem dX8_begin_13 : decode cX8_begin 13 = .ok (.aload_n 0, 1) := by decide +kernel
theorem dX8_begin_14 : decode cX8_begin 14 = .ok (.invokevirtual 35, 3) := by decide +kernel
theorem dX8_begin_17 : decode cX8_begin 17 = .ok (.iload_n 1, 1) := by decide +kernel
theorem dX8_begin_18 : decode cX8_begin 18 = .ok (.ireturn, 1) := by decide +kernel
theorem dX8_isValue_0 : decode cX8_isValue 0 = .ok (.iload_n 0, 1) := by decide +kernel
theorem dX8_isValue_1 : decode cX8_isValue 1 = .ok (.tableswitch 79 0 5 #[39, 47, 39, 55, 63, 71], 39) := by decide +kernel
theorem dX8_isValue_40 : decode cX8_isValue 40 = .ok (.iload_n 1, 1) := by decide +kernel
theorem dX8_isValue_41 : decode cX8_isValue 41 = .ok (.iconst 1, 1) := by decide +kernel
theorem dX8_isValue_42 : decode cX8_isValue 42 = .ok (.bipush 9, 2) := by decide +kernel
theorem dX8_isValue_44 : decode cX8_isValue 44 = .ok (.invokestatic 38, 3) := by decide +kernel
theorem dX8_isValue_47 : decode cX8_isValue 47 = .ok (.ireturn, 1) := by decide +kernel
theorem dX8_isValue_48 : decode cX8_isValue 48 = .ok (.iload_n 1, 1) := by decide +kernel
theorem dX8_isValue_49 : decode cX8_isValue 49 = .ok (.iconst 0, 1) := by decide +kernel
theorem dX8_isValue_50 : decode cX8_isValue 50 = .ok (.bipush 9, 2) := by decide +kernel
theorem dX8_isValue_52 : decode cX8_isValue 52 = .ok (.invokestatic 38, 3) := by decide +kernel
theorem dX8_isValue_55 : decode cX8_isValue 55 = .ok (.ireturn, 1) := by decide +kernel
theorem dX8_isValue_56 : decode cX8_isValue 56 = .ok (.iload_n 1, 1) := by decide +kernel
theorem dX8_isValue_57 : decode cX8_isValue 57 = .ok (.iconst 1, 1) := by decide +kernel
theorem dX8_isValue_58 : decode cX8_isValue 58 = .ok (.bipush 20, 2) := by decide +kernel
theorem dX8_isValue_60 : decode cX8_isValue 60 = .ok (.invokestatic 38, 3) := by decide +kernel
theorem dX8_isValue_63 : decode cX8_isValue 63 = .ok (.ireturn, 1) := by decide +kernel
theorem dX8_isValue_64 : decode cX8_isValue 64 = .ok (.iload_n 1, 1) := by decide +kernel
theorem dX8_isValue_65 : decode cX8_isValue 65 = .ok (.iconst 5, 1) := by decide +kernel
theorem dX8_isValue_66 : decode cX8_isValue 66 = .ok (.bipush 60, 2) := by decide +kernel
theorem dX8_isValue_68 : decode cX8_isValue 68 = .ok (.invokestatic 38, 3) := by decide +kernel
theorem dX8_isValue_71 : decode cX8_isValue 71 = .ok (.ireturn, 1) := by decide +kernel
theorem dX8_isValue_72 : decode cX8_isValue 72 = .ok (.iload_n 1, 1) := by decide +kernel
theorem dX8_isValue_73 : decode cX8_isValue 73 = .ok (.iconst 2, 1) := by decide +kernel
theorem dX8_isValue_74 : decode cX8_isValue 74 = .ok (.bipush 9, 2) := by decide +kernel
theorem dX8_isValue_76 : decode cX8_isValue 76 = .ok (.invokestatic 38, 3) := by decide +kernel
theorem dX8_isValue_79 : decode cX8_isValue 79 = .ok (.ireturn, 1) := by decide +kernel
theorem dX8_isValue_80 : decode cX8_isValue 80 = .ok (.iconst 0, 1) := by decide +kernel
theorem dX8_isValue_81 : decode cX8_isValue 81 = .ok (.ireturn, 1) := by decide +kernel
theorem dX8_set_0 : decode cX8_set 0 = .ok (.iload_n 1, 1) := by decide +kernel
theorem dX8_set_1 : decode cX8_set 1 = .ok (.iload_n 2, 1) := by decide +kernel
theorem dX8_set_2 : decode cX8_set 2 = .ok (.invokestatic 92, 3) := by decide +kernel
theorem dX8_set_5 : decode cX8_set 5 = .ok (.ifCond .ne 6, 3) := by decide +kernel
theorem dX8_set_8 : decode cX8_set 8 = .ok (.bipush (-2), 2) := by decide +kernel
theorem dX8_set_10 : decode cX8_set 10 = .ok (.ireturn, 1) := by decide +kernel
theorem dX8_set_11 : decode cX8_set 11 = .ok (.aload_n 0, 1) := by decide +kernel
theorem dX8_set_12 : decode cX8_set 12 = .ok (.invokevirtual 50, 3) := by decide +kernel
theorem dX8_set_15 : decode cX8_set 15 = .ok (.aload_n 0, 1) := by decide +kernel
theorem dX8_set_16 : decode cX8_set 16 = .ok (.getfield 7, 3) := by decide +kernel
theorem dX8_set_19 : decode cX8_set 19 = .ok (.iload_n 1, 1) := by decide +kernel
theorem dX8_set_20 : decode cX8_set 20 = .ok (.iaload, 1) := by decide +kernel
theorem dX8_set_21 : decode cX8_set 21 = .ok (.istore_n 3, 1) := by decide +kernel
theorem dX8_set_22 : decode cX8_set 22 = .ok (.aload_n 0, 1) := by decide +kernel
theorem dX8_set_23 : decode cX8_set 23 = .ok (.getfield 7, 3) := by decide +kernel
theorem dX8_set_26 : decode cX8_set 26 = .ok (.iload_n 1, 1) := by decide +kernel
theorem dX8_set_27 : decode cX8_set 27 = .ok (.iload_n 2, 1) := by decide +kernel
theorem dX8_set_28 : decode cX8_set 28 = .ok (.iastore, 1) := by decide +kernel
theorem dX8_set_29 : decode cX8_set 29 = .ok (.aload_n 0, 1) := by decide +kernel
theorem dX8_set_30 : decode cX8_set 30 = .ok (.invokevirtual 35, 3) := by decide +kernel
theorem dX8_set_33 : decode cX8_set 33 = .ok (.iload_n 3, 1) := by decide +kernel
theorem dX8_set_34 : decode cX8_set 34 = .ok (.ireturn, 1) := by decide +kernel
theorem dX8_pave_0 : decode cX8_pave 0 = .ok (.iload_n 1, 1) := by decide +kernel
theorem dX8_pave_1 : decode cX8_pave 1 = .ok (.iconst 1, 1) := by decide +kernel
theorem dX8_pave_2 : decode cX8_pave 2 = .ok (.bipush 99, 2) := by decide +kernel
theorem dX8_pave_4 : decode cX8_pave 4 = .ok (.invokestatic 38, 3) := by decide +kernel
theorem dX8_pave_7 : decode cX8_pave 7 = .ok (.ifCond .eq 13, 3) := by decide +kernel
theorem dX8_pave_10 : decode cX8_pave 10 = .ok (.iload_n 2, 1) := by decide +kernel
theorem dX8_pave_11 : decode cX8_pave 11 = .ok (.bipush (-3), 2) := by decide +kernel
theorem dX8_pave_13 : decode cX8_pave 13 = .ok (.iconst 3, 1) := by decide +kernel
theorem dX8_pave_14 : decode cX8_pave 14 = .ok (.invokestatic 38, 3) := by decide +kernel
theorem dX8_pave_17 : decode cX8_pave 17 = .ok (.ifCond .ne 6, 3) := by decide +kernel
theorem dX8_pave_20 : decode cX8_pave 20 = .ok (.bipush (-2), 2) := by decide +kernel
theorem dX8_pave_22 : decode cX8_pave 22 = .ok (.ireturn, 1) := by decide +kernel
theorem dX8_pave_23 : decode cX8_pave 23 = .ok (.aload_n 0, 1) := by decide +kernel
theorem dX8_pave_24 : decode cX8_pave 24 = .ok (.getfield 7, 3) := by decide +kernel
theorem dX8_pave_27 : decode cX8_pave 27 = .ok (.bipush 7, 2) := by decide +kernel
theorem dX8_pave_29 : decode cX8_pave 29 = .ok (.iaload, 1) := by decide +kernel
theorem dX8_pave_30 : decode cX8_pave 30 = .ok (.bipush 12, 2) := by decide +kernel
theorem dX8_pave_32 : decode cX8_pave 32 = .ok (.if_icmp .ne 6, 3) := by decide +kernel
theorem dX8_pave_35 : decode cX8_pave 35 = .ok (.bipush (-4), 2) := by decide +kernel
theorem dX8_pave_37 : decode cX8_pave 37 = .ok (.ireturn, 1) := by decide +kernel
theorem dX8_pave_38 : decode cX8_pave 38 = .ok (.aload_n 0, 1) := by decide +kernel
theorem dX8_pave_39 : decode cX8_pave 39 = .ok (.invokevirtual 50, 3) := by decide +kernel
theorem dX8_pave_42 : decode cX8_pave 42 = .ok (.sipush 138, 3) := by decide +kernel
theorem dX8_pave_45 : decode cX8_pave 45 = .ok (.iconst 3, 1) := by decide +kernel
theorem dX8_pave_46 : decode cX8_pave 46 = .ok (.aload_n 0, 1) := by decide +kernel
theorem dX8_pave_47 : decode cX8_pave 47 = .ok (.getfield 7, 3) := by decide +kernel
theorem dX8_pave_50 : decode cX8_pave 50 = .ok (.bipush 7, 2) := by decide +kernel
theorem dX8_pave_52 : decode cX8_pave 52 = .ok (.iaload, 1) := by decide +kernel
theorem dX8_pave_53 : decode cX8_pave 53 = .ok (.imul, 1) := by decide +kernel
theorem dX8_pave_54 : decode cX8_pave 54 = .ok (.iadd, 1) := by decide +kernel
theorem dX8_pave_55 : decode cX8_pave 55 = .ok (.istore 4, 2) := by decide +kernel
theorem dX8_pave_57 : decode cX8_pave 57 = .ok (.aload_n 0, 1) := by decide +kernel
theorem dX8_pave_58 : decode cX8_pave 58 = .ok (.getfield 7, 3) := by decide +kernel
theorem dX8_pave_61 : decode cX8_pave 61 = .ok (.iload 4, 2) := by decide +kernel
theorem dX8_pave_63 : decode cX8_pave 63 = .ok (.iconst 0, 1) := by decide +kernel
theorem dX8_pave_64 : decode cX8_pave 64 = .ok (.iadd, 1) := by decide +kernel
theorem dX8_pave_65 : decode cX8_pave 65 = .ok (.iload_n 1, 1) := by decide +kernel
theorem dX8_pave_66 : decode cX8_pave 66 = .ok (.iastore, 1) := by decide +kernel
theorem dX8_pave_67 : decode cX8_pave 67 = .ok (.aload_n 0, 1) := by decide +kernel
theorem dX8_pave_68 : decode cX8_pave 68 = .ok (.getfield 7, 3) := by decide +kernel
theorem dX8_pave_71 : decode cX8_pave 71 = .ok (.iload 4, 2) := by decide +kernel
theorem dX8_pave_73 : decode cX8_pave 73 = .ok (.iconst 1, 1) := by decide +kernel
theorem dX8_pave_74 : decode cX8_pave 74 = .ok (.iadd, 1) := by decide +kernel
theorem dX8_pave_75 : decode cX8_pave 75 = .ok (.iload_n 2, 1) := by decide +kernel
theorem dX8_pave_76 : decode cX8_pave 76 = .ok (.iastore, 1) := by decide +kernel
theorem dX8_pave_77 : decode cX8_pave 77 = .ok (.aload_n 0, 1) := by decide +kernel
theorem dX8_pave_78 : decode cX8_pave 78 = .ok (.getfield 7, 3) := by decide +kernel
theorem dX8_pave_81 : decode cX8_pave 81 = .ok (.iload 4, 2) := by decide +kernel
theorem dX8_pave_83 : decode cX8_pave 83 = .ok (.iconst 2, 1) := by decide +kernel
theorem dX8_pave_84 : decode cX8_pave 84 = .ok (.iadd, 1) := by decide +kernel
theorem dX8_pave_85 : decode cX8_pave 85 = .ok (.iload_n 3, 1) := by decide +kernel
theorem dX8_pave_86 : decode cX8_pave 86 = .ok (.ifCond .eq 7, 3) := by decide +kernel
theorem dX8_pave_89 : decode cX8_pave 89 = .ok (.iconst 1, 1) := by decide +kernel
theorem dX8_pave_90 : decode cX8_pave 90 = .ok (.goto 4, 3) := by decide +kernel
theorem dX8_pave_93 : decode cX8_pave 93 = .ok (.iconst 0, 1) := by decide +kernel
theorem dX8_pave_94 : decode cX8_pave 94 = .ok (.iastore, 1) := by decide +kernel
theorem dX8_pave_95 : decode cX8_pave 95 = .ok (.aload_n 0, 1) := by decide +kernel
theorem dX8_pave_96 : decode cX8_pave 96 = .ok (.getfield 7, 3) := by decide +kernel
theorem dX8_pave_99 : decode cX8_pave 99 = .ok (.bipush 7, 2) := by decide +kernel
theorem dX8_pave_101 : decode cX8_pave 101 = .ok (.dup2, 1) := by decide +kernel
theorem dX8_pave_102 : decode cX8_pave 102 = .ok (.iaload, 1) := by decide +kernel
theorem dX8_pave_103 : decode cX8_pave 103 = .ok (.iconst 1, 1) := by decide +kernel
theorem dX8_pave_104 : decode cX8_pave 104 = .ok (.iadd, 1) := by decide +kernel
theorem dX8_pave_105 : decode cX8_pave 105 = .ok (.iastore, 1) := by decide +kernel
theorem dX8_pave_106 : decode cX8_pave 106 = .ok (.aload_n 0, 1) := by decide +kernel
theorem dX8_pave_107 : decode cX8_pave 107 = .ok (.invokevirtual 35, 3) := by decide +kernel
theorem dX8_pave_110 : decode cX8_pave 110 = .ok (.aload_n 0, 1) := by decide +kernel
theorem dX8_pave_111 : decode cX8_pave 111 = .ok (.getfield 7, 3) := by decide +kernel
theorem dX8_pave_114 : decode cX8_pave 114 = .ok (.bipush 7, 2) := by decide +kernel
theorem dX8_pave_116 : decode cX8_pave 116 = .ok (.iaload, 1) := by decide +kernel
theorem dX8_pave_117 : decode cX8_pave 117 = .ok (.iconst 1, 1) := by decide +kernel
theorem dX8_pave_118 : decode cX8_pave 118 = .ok (.isub, 1) := by decide +kernel
theorem dX8_pave_119 : decode cX8_pave 119 = .ok (.ireturn, 1) := by decide +kernel
theorem dX8_tear_0 : decode cX8_tear 0 = .ok (.aload_n 0, 1) := by decide +kernel
theorem dX8_tear_1 : decode cX8_tear 1 = .ok (.iload_n 1, 1) := by decide +kernel
theorem dX8_tear_2 : decode cX8_tear 2 = .ok (.invokevirtual 95, 3) := by decide +kernel
theorem dX8_tear_5 : decode cX8_tear 5 = .ok (.ifCond .ne 5, 3) := by decide +kernel
theorem dX8_tear_8 : decode cX8_tear 8 = .ok (.iconst (-1), 1) := by decide +kernel
theorem dX8_tear_9 : decode cX8_tear 9 = .ok (.ireturn, 1) := by decide +kernel
theorem dX8_tear_10 : decode cX8_tear 10 = .ok (.aload_n 0, 1) := by decide +kernel
theorem dX8_tear_11 : decode cX8_tear 11 = .ok (.invokevirtual 50, 3) := by decide +kernel
theorem dX8_tear_14 : decode cX8_tear 14 = .ok (.aload_n 0, 1) := by decide +kernel
theorem dX8_tear_15 : decode cX8_tear 15 = .ok (.iload_n 1, 1) := by decide +kernel
theorem dX8_tear_16 : decode cX8_tear 16 = .ok (.iconst 0, 1) := by decide +kernel
theorem dX8_tear_17 : decode cX8_tear 17 = .ok (.invokevirtual 53, 3) := by decide +kernel
theorem dX8_tear_20 : decode cX8_tear 20 = .ok (.istore_n 2, 1) := by decide +kernel
theorem dX8_tear_21 : decode cX8_tear 21 = .ok (.aload_n 0, 1) := by decide +kernel
theorem dX8_tear_22 : decode cX8_tear 22 = .ok (.getfield 7, 3) := by decide +kernel
theorem dX8_tear_25 : decode cX8_tear 25 = .ok (.bipush 7, 2) := by decide +kernel
theorem dX8_tear_27 : decode cX8_tear 27 = .ok (.dup2, 1) := by decide +kernel
theorem dX8_tear_28 : decode cX8_tear 28 = .ok (.iaload, 1) := by decide +kernel
theorem dX8_tear_29 : decode cX8_tear 29 = .ok (.iconst 1, 1) := by decide +kernel
theorem dX8_tear_30 : decode cX8_tear 30 = .ok (.isub, 1) := by decide +kernel
theorem dX8_tear_31 : decode cX8_tear 31 = .ok (.iastore, 1) := by decide +kernel
theorem dX8_tear_32 : decode cX8_tear 32 = .ok (.iconst 3, 1) := by decide +kernel
theorem dX8_tear_33 : decode cX8_tear 33 = .ok (.iload_n 1, 1) := by decide +kernel
theorem dX8_tear_34 : decode cX8_tear 34 = .ok (.imul, 1) := by decide +kernel
theorem dX8_tear_35 : decode cX8_tear 35 = .ok (.istore_n 3, 1) := by decide +kernel
theorem dX8_tear_36 : decode cX8_tear 36 = .ok (.iload_n 3, 1) := by decide +kernel
theorem dX8_tear_37 : decode cX8_tear 37 = .ok (.iconst 3, 1) := by decide +kernel
theorem dX8_tear_38 : decode cX8_tear 38 = .ok (.aload_n 0, 1) := by decide +kernel
theorem dX8_tear_39 : decode cX8_tear 39 = .ok (.getfield 7, 3) := by decide +kernel
theorem dX8_tear_42 : decode cX8_tear 42 = .ok (.bipush 7, 2) := by decide +kernel
theorem dX8_tear_44 : decode cX8_tear 44 = .ok (.iaload, 1) := by decide +kernel
theorem dX8_tear_45 : decode cX8_tear 45 = .ok (.imul, 1) := by decide +kernel
theorem dX8_tear_46 : decode cX8_tear 46 = .ok (.if_icmp .ge 31, 3) := by decide +kernel
theorem dX8_tear_49 : decode cX8_tear 49 = .ok (.aload_n 0, 1) := by decide +kernel
theorem dX8_tear_50 : decode cX8_tear 50 = .ok (.getfield 7, 3) := by decide +kernel
theorem dX8_tear_53 : decode cX8_tear 53 = .ok (.sipush 138, 3) := by decide +kernel
theorem dX8_tear_56 : decode cX8_tear 56 = .ok (.iload_n 3, 1) := by decide +kernel
theorem dX8_tear_57 : decode cX8_tear 57 = .ok (.iadd, 1) := by decide +kernel
theorem dX8_tear_58 : decode cX8_tear 58 = .ok (.aload_n 0, 1) := by decide +kernel
theorem dX8_tear_59 : decode cX8_tear 59 = .ok (.getfield 7, 3) := by decide +kernel
theorem dX8_tear_62 : decode cX8_tear 62 = .ok (.sipush 138, 3) := by decide +kernel
theorem dX8_tear_65 : decode cX8_tear 65 = .ok (.iload_n 3, 1) := by decide +kernel
theorem dX8_tear_66 : decode cX8_tear 66 = .ok (.iadd, 1) := by decide +kernel
theorem dX8_tear_67 : decode cX8_tear 67 = .ok (.iconst 3, 1) := by decide +kernel
theorem dX8_tear_68 : decode cX8_tear 68 = .ok (.iadd, 1) := by decide +kernel
theorem dX8_tear_69 : decode cX8_tear 69 = .ok (.iaload, 1) := by decide +kernel
theorem dX8_tear_70 : decode cX8_tear 70 = .ok (.iastore, 1) := by decide +kernel
theorem dX8_tear_71 : decode cX8_tear 71 = .ok (.iinc 3 1, 3) := by decide +kernel
theorem dX8_tear_74 : decode cX8_tear 74 = .ok (.goto (-38), 3) := by decide +kernel
theorem dX8_tear_77 : decode cX8_tear 77 = .ok (.aload_n 0, 1) := by decide +kernel
theorem dX8_tear_78 : decode cX8_tear 78 = .ok (.invokevirtual 35, 3) := by decide +kernel
theorem dX8_tear_81 : decode cX8_tear 81 = .ok (.iload_n 2, 1) := by decide +kernel
theorem dX8_tear_82 : decode cX8_tear 82 = .ok (.ireturn, 1) := by decide +kernel
theorem dX8_put_0 : decode cX8_put 0 = .ok (.lload_n 1, 1) := by decide +kernel
theorem dX8_put_1 : decode cX8_put 1 = .ok (.lstore_n 3, 1) := by decide +kernel
theorem dX8_put_2 : decode cX8_put 2 = .ok (.iconst 0, 1) := by decide +kernel
theorem dX8_put_3 : decode cX8_put 3 = .ok (.istore 5, 2) := by decide +kernel
theorem dX8_put_5 : decode cX8_put 5 = .ok (.lload_n 3, 1) := by decide +kernel
theorem dX8_put_6 : decode cX8_put 6 = .ok (.lconst 0, 1) := by decide +kernel
theorem dX8_put_7 : decode cX8_put 7 = .ok (.lcmp, 1) := by decide +kernel
theorem dX8_put_8 : decode cX8_put 8 = .ok (.ifCond .eq 40, 3) := by decide +kernel
theorem dX8_put_11 : decode cX8_put 11 = .ok (.iload 5, 2) := by decide +kernel
theorem dX8_put_13 : decode cX8_put 13 = .ok (.bipush 8, 2) := by decide +kernel
theorem dX8_put_15 : decode cX8_put 15 = .ok (.if_icmp .ge 33, 3) := by decide +kernel
theorem dX8_put_18 : decode cX8_put 18 = .ok (.lload_n 3, 1) := by decide +kernel
theorem dX8_put_19 : decode cX8_put 19 = .ok (.ldc2_w 99, 3) := by decide +kernel
theorem dX8_put_22 : decode cX8_put 22 = .ok (.land, 1) := by decide +kernel
theorem dX8_put_23 : decode cX8_put 23 = .ok (.l2i, 1) := by decide +kernel
theorem dX8_put_24 : decode cX8_put 24 = .ok (.bipush 33, 2) := by decide +kernel
theorem dX8_put_26 : decode cX8_put 26 = .ok (.bipush 126, 2) := by decide +kernel
theorem dX8_put_28 : decode cX8_put 28 = .ok (.invokestatic 38, 3) := by decide +kernel
theorem dX8_put_31 : decode cX8_put 31 = .ok (.ifCond .ne 6, 3) := by decide +kernel
theorem dX8_put_34 : decode cX8_put 34 = .ok (.bipush (-2), 2) := by decide +kernel
theorem dX8_put_36 : decode cX8_put 36 = .ok (.ireturn, 1) := by decide +kernel
theorem dX8_put_37 : decode cX8_put 37 = .ok (.lload_n 3, 1) := by decide +kernel
theorem dX8_put_38 : decode cX8_put 38 = .ok (.bipush 8, 2) := by decide +kernel
theorem dX8_put_40 : decode cX8_put 40 = .ok (.lushr, 1) := by decide +kernel
theorem dX8_put_41 : decode cX8_put 41 = .ok (.lstore_n 3, 1) := by decide +kernel
theorem dX8_put_42 : decode cX8_put 42 = .ok (.iinc 5 1, 3) := by decide +kernel
theorem dX8_put_45 : decode cX8_put 45 = .ok (.goto (-40), 3) := by decide +kernel
theorem dX8_put_48 : decode cX8_put 48 = .ok (.iload 5, 2) := by decide +kernel
theorem dX8_put_50 : decode cX8_put 50 = .ok (.ifCond .ne 6, 3) := by decide +kernel
theorem dX8_put_53 : decode cX8_put 53 = .ok (.bipush (-2), 2) := by decide +kernel
theorem dX8_put_55 : decode cX8_put 55 = .ok (.ireturn, 1) := by decide +kernel
theorem dX8_put_56 : decode cX8_put 56 = .ok (.aload_n 0, 1) := by decide +kernel
theorem dX8_put_57 : decode cX8_put 57 = .ok (.getfield 101, 3) := by decide +kernel
theorem dX8_put_60 : decode cX8_put 60 = .ok (.iload 5, 2) := by decide +kernel
theorem dX8_put_62 : decode cX8_put 62 = .ok (.iadd, 1) := by decide +kernel
theorem dX8_put_63 : decode cX8_put 63 = .ok (.bipush 60, 2) := by decide +kernel
theorem dX8_put_65 : decode cX8_put 65 = .ok (.if_icmp .le 6, 3) := by decide +kernel
theorem dX8_put_68 : decode cX8_put 68 = .ok (.bipush (-4), 2) := by decide +kernel
theorem dX8_put_70 : decode cX8_put 70 = .ok (.ireturn, 1) := by decide +kernel
theorem dX8_put_71 : decode cX8_put 71 = .ok (.iload 5, 2) := by decide +kernel
theorem dX8_put_73 : decode cX8_put 73 = .ok (.iconst 1, 1) := by decide +kernel
theorem dX8_put_74 : decode cX8_put 74 = .ok (.isub, 1) := by decide +kernel
theorem dX8_put_75 : decode cX8_put 75 = .ok (.istore 6, 2) := by decide +kernel
theorem dX8_put_77 : decode cX8_put 77 = .ok (.iload 6, 2) := by decide +kernel
theorem dX8_put_79 : decode cX8_put 79 = .ok (.ifCond .lt 40, 3) := by decide +kernel
theorem dX8_put_82 : decode cX8_put 82 = .ok (.aload_n 0, 1) := by decide +kernel
theorem dX8_put_83 : decode cX8_put 83 = .ok (.getfield 26, 3) := by decide +kernel
theorem dX8_put_86 : decode cX8_put 86 = .ok (.aload_n 0, 1) := by decide +kernel
theorem dX8_put_87 : decode cX8_put 87 = .ok (.getfield 101, 3) := by decide +kernel
theorem dX8_put_90 : decode cX8_put 90 = .ok (.lload_n 1, 1) := by decide +kernel
theorem dX8_put_91 : decode cX8_put 91 = .ok (.bipush 8, 2) := by decide +kernel
theorem dX8_put_93 : decode cX8_put 93 = .ok (.iload 6, 2) := by decide +kernel
theorem dX8_put_95 : decode cX8_put 95 = .ok (.imul, 1) := by decide +kernel
theorem dX8_put_96 : decode cX8_put 96 = .ok (.lushr, 1) := by decide +kernel
theorem dX8_put_97 : decode cX8_put 97 = .ok (.ldc2_w 99, 3) := by decide +kernel
theorem dX8_put_100 : decode cX8_put 100 = .ok (.land, 1) := by decide +kernel
theorem dX8_put_101 : decode cX8_put 101 = .ok (.l2i, 1) := by decide +kernel
theorem dX8_put_102 : decode cX8_put 102 = .ok (.iastore, 1) := by decide +kernel
theorem dX8_put_103 : decode cX8_put 103 = .ok (.aload_n 0, 1) := by decide +kernel
theorem dX8_put_104 : decode cX8_put 104 = .ok (.dup, 1) := by decide +kernel
theorem dX8_put_105 : decode cX8_put 105 = .ok (.getfield 101, 3) := by decide +kernel
theorem dX8_put_108 : decode cX8_put 108 = .ok (.iconst 1, 1) := by decide +kernel
theorem dX8_put_109 : decode cX8_put 109 = .ok (.iadd, 1) := by decide +kernel
theorem dX8_put_110 : decode cX8_put 110 = .ok (.putfield 101, 3) := by decide +kernel
theorem dX8_put_113 : decode cX8_put 113 = .ok (.iinc 6 (-1), 3) := by decide +kernel
theorem dX8_put_116 : decode cX8_put 116 = .ok (.goto (-39), 3) := by decide +kernel
theorem dX8_put_119 : decode cX8_put 119 = .ok (.aload_n 0, 1) := by decide +kernel
theorem dX8_put_120 : decode cX8_put 120 = .ok (.getfield 101, 3) := by decide +kernel
theorem dX8_put_123 : decode cX8_put 123 = .ok (.ireturn, 1) := by decide +kernel
theorem dX8_wipe_0 : decode cX8_wipe 0 = .ok (.aload_n 0, 1) := by decide +kernel
theorem dX8_wipe_1 : decode cX8_wipe 1 = .ok (.getfield 101, 3) := by decide +kernel
theorem dX8_wipe_4 : decode cX8_wipe 4 = .ok (.istore_n 1, 1) := by decide +kernel
theorem dX8_wipe_5 : decode cX8_wipe 5 = .ok (.aload_n 0, 1) := by decide +kernel
theorem dX8_wipe_6 : decode cX8_wipe 6 = .ok (.iconst 0, 1) := by decide +kernel
theorem dX8_wipe_7 : decode cX8_wipe 7 = .ok (.putfield 101, 3) := by decide +kernel
theorem dX8_wipe_10 : decode cX8_wipe 10 = .ok (.iload_n 1, 1) := by decide +kernel
theorem dX8_wipe_11 : decode cX8_wipe 11 = .ok (.ireturn, 1) := by decide +kernel
theorem dX8_takes_0 : decode cX8_takes 0 = .ok (.aload_n 0, 1) := by decide +kernel
theorem dX8_takes_1 : decode cX8_takes 1 = .ok (.getfield 104, 3) := by decide +kernel
theorem dX8_takes_4 : decode cX8_takes 4 = .ok (.aload_n 0, 1) := by decide +kernel
theorem dX8_takes_5 : decode cX8_takes 5 = .ok (.getfield 101, 3) := by decide +kernel
theorem dX8_takes_8 : decode cX8_takes 8 = .ok (.if_icmp .ge 20, 3) := by decide +kernel
theorem dX8_takes_11 : decode cX8_takes 11 = .ok (.aload_n 0, 1) := by decide +kernel
theorem dX8_takes_12 : decode cX8_takes 12 = .ok (.getfield 26, 3) := by decide +kernel
theorem dX8_takes_15 : decode cX8_takes 15 = .ok (.aload_n 0, 1) := by decide +kernel
theorem dX8_takes_16 : decode cX8_takes 16 = .ok (.getfield 104, 3) := by decide +kernel
theorem dX8_takes_19 : decode cX8_takes 19 = .ok (.iaload, 1) := by decide +kernel
theorem dX8_takes_20 : decode cX8_takes 20 = .ok (.iload_n 1, 1) := by decide +kernel
theorem dX8_takes_21 : decode cX8_takes 21 = .ok (.if_icmp .ne 7, 3) := by decide +kernel
theorem dX8_takes_24 : decode cX8_takes 24 = .ok (.iconst 1, 1) := by decide +kernel
theorem dX8_takes_25 : decode cX8_takes 25 = .ok (.goto 4, 3) := by decide +kernel
theorem dX8_takes_28 : decode cX8_takes 28 = .ok (.iconst 0, 1) := by decide +kernel
theorem dX8_takes_29 : decode cX8_takes 29 = .ok (.istore_n 2, 1) := by decide +kernel
theorem dX8_takes_30 : decode cX8_takes 30 = .ok (.aload_n 0, 1) := by decide +kernel
theorem dX8_takes_31 : decode cX8_takes 31 = .ok (.dup, 1) := by decide +kernel
theorem dX8_takes_32 : decode cX8_takes 32 = .ok (.getfield 104, 3) := by decide +kernel
theorem dX8_takes_35 : decode cX8_takes 35 = .ok (.iload_n 2, 1) := by decide +kernel
theorem dX8_takes_36 : decode cX8_takes 36 = .ok (.ifCond .eq 7, 3) := by decide +kernel
theorem dX8_takes_39 : decode cX8_takes 39 = .ok (.iconst 1, 1) := by decide +kernel
theorem dX8_takes_40 : decode cX8_takes 40 = .ok (.goto 4, 3) := by decide +kernel
theorem dX8_takes_43 : decode cX8_takes 43 = .ok (.iconst 0, 1) := by decide +kernel
theorem dX8_takes_44 : decode cX8_takes 44 = .ok (.iadd, 1) := by decide +kernel
theorem dX8_takes_45 : decode cX8_takes 45 = .ok (.putfield 104, 3) := by decide +kernel
theorem dX8_takes_48 : decode cX8_takes 48 = .ok (.iload_n 2, 1) := by decide +kernel
theorem dX8_takes_49 : decode cX8_takes 49 = .ok (.ireturn, 1) := by decide +kernel
theorem dX8_readFoot_0 : decode cX8_readFoot 0 = .ok (.aload_n 0, 1) := by decide +kernel
theorem dX8_readFoot_1 : decode cX8_readFoot 1 = .ok (.bipush 117, 2) := by decide +kernel
theorem dX8_readFoot_3 : decode cX8_readFoot 3 = .ok (.invokevirtual 107, 3) := by decide +kernel
theorem dX8_readFoot_6 : decode cX8_readFoot 6 = .ok (.ifCond .eq 7, 3) := by decide +kernel
theorem dX8_readFoot_9 : decode cX8_readFoot 9 = .ok (.iconst 2, 1) := by decide +kernel
theorem dX8_readFoot_10 : decode cX8_readFoot 10 = .ok (.goto 30, 3) := by decide +kernel
theorem dX8_readFoot_13 : decode cX8_readFoot 13 = .ok (.aload_n 0, 1) := by decide +kernel
theorem dX8_readFoot_14 : decode cX8_readFoot 14 = .ok (.bipush 100, 2) := by decide +kernel
theorem dX8_readFoot_16 : decode cX8_readFoot 16 = .ok (.invokevirtual 107, 3) := by decide +kernel
theorem dX8_readFoot_19 : decode cX8_readFoot 19 = .ok (.ifCond .eq 7, 3) := by decide +kernel
theorem dX8_readFoot_22 : decode cX8_readFoot 22 = .ok (.iconst 3, 1) := by decide +kernel
theorem dX8_readFoot_23 : decode cX8_readFoot 23 = .ok (.goto 17, 3) := by decide +kernel
theorem dX8_readFoot_26 : decode cX8_readFoot 26 = .ok (.aload_n 0, 1) := by decide +kernel
theorem dX8_readFoot_27 : decode cX8_readFoot 27 = .ok (.bipush 113, 2) := by decide +kernel
theorem dX8_readFoot_29 : decode cX8_readFoot 29 = .ok (.invokevirtual 107, 3) := by decide +kernel
theorem dX8_readFoot_32 : decode cX8_readFoot 32 = .ok (.ifCond .eq 7, 3) := by decide +kernel
theorem dX8_readFoot_35 : decode cX8_readFoot 35 = .ok (.iconst 4, 1) := by decide +kernel
theorem dX8_readFoot_36 : decode cX8_readFoot 36 = .ok (.goto 4, 3) := by decide +kernel
theorem dX8_readFoot_39 : decode cX8_readFoot 39 = .ok (.iconst 0, 1) := by decide +kernel
theorem dX8_readFoot_40 : decode cX8_readFoot 40 = .ok (.istore_n 1, 1) := by decide +kernel
theorem dX8_readFoot_41 : decode cX8_readFoot 41 = .ok (.iload_n 1, 1) := by decide +kernel
theorem dX8_readFoot_42 : decode cX8_readFoot 42 = .ok (.ifCond .ne 5, 3) := by decide +kernel
theorem dX8_readFoot_45 : decode cX8_readFoot 45 = .ok (.iconst 0, 1) := by decide +kernel
theorem dX8_readFoot_46 : decode cX8_readFoot 46 = .ok (.ireturn, 1) := by decide +kernel
theorem dX8_readFoot_47 : decode cX8_readFoot 47 = .ok (.aload_n 0, 1) := by decide +kernel
theorem dX8_readFoot_48 : decode cX8_readFoot 48 = .ok (.bipush 39, 2) := by decide +kernel
theorem dX8_readFoot_50 : decode cX8_readFoot 50 = .ok (.invokevirtual 107, 3) := by decide +kernel
theorem dX8_readFoot_53 : decode cX8_readFoot 53 = .ok (.ifCond .eq 8, 3) := by decide +kernel
theorem dX8_readFoot_56 : decode cX8_readFoot 56 = .ok (.bipush 10, 2) := by decide +kernel
theorem dX8_readFoot_58 : decode cX8_readFoot 58 = .ok (.goto 4, 3) := by decide +kernel
theorem dX8_readFoot_61 : decode cX8_readFoot 61 = .ok (.iconst 0, 1) := by decide +kernel
theorem dX8_readFoot_62 : decode cX8_readFoot 62 = .ok (.istore_n 2, 1) := by decide +kernel
theorem dX8_readFoot_63 : decode cX8_readFoot 63 = .ok (.aload_n 0, 1) := by decide +kernel
theorem dX8_readFoot_64 : decode cX8_readFoot 64 = .ok (.getfield 29, 3) := by decide +kernel
theorem dX8_readFoot_67 : decode cX8_readFoot 67 = .ok (.bipush 12, 2) := by decide +kernel
theorem dX8_readFoot_69 : decode cX8_readFoot 69 = .ok (.aload_n 0, 1) := by decide +kernel
theorem dX8_readFoot_70 : decode cX8_readFoot 70 = .ok (.getfield 110, 3) := by decide +kernel
theorem dX8_readFoot_73 : decode cX8_readFoot 73 = .ok (.imul, 1) := by decide +kernel
theorem dX8_readFoot_74 : decode cX8_readFoot 74 = .ok (.aload_n 0, 1) := by decide +kernel
theorem dX8_readFoot_75 : decode cX8_readFoot 75 = .ok (.getfield 32, 3) := by decide +kernel
theorem dX8_readFoot_78 : decode cX8_readFoot 78 = .ok (.aload_n 0, 1) := by decide +kernel
theorem dX8_readFoot_79 : decode cX8_readFoot 79 = .ok (.getfield 110, 3) := by decide +kernel
theorem dX8_readFoot_82 : decode cX8_readFoot 82 = .ok (.iaload, 1) := by decide +kernel
theorem dX8_readFoot_83 : decode cX8_readFoot 83 = .ok (.iadd, 1) := by decide +kernel
theorem dX8_readFoot_84 : decode cX8_readFoot 84 = .ok (.iload_n 1, 1) := by decide +kernel
theorem dX8_readFoot_85 : decode cX8_readFoot 85 = .ok (.iload_n 2, 1) := by decide +kernel
theorem dX8_readFoot_86 : decode cX8_readFoot 86 = .ok (.iadd, 1) := by decide +kernel
theorem dX8_readFoot_87 : decode cX8_readFoot 87 = .ok (.iastore, 1) := by decide +kernel
theorem dX8_readFoot_88 : decode cX8_readFoot 88 = .ok (.aload_n 0, 1) := by decide +kernel
theorem dX8_readFoot_89 : decode cX8_readFoot 89 = .ok (.getfield 32, 3) := by decide +kernel
theorem dX8_readFoot_92 : decode cX8_readFoot 92 = .ok (.aload_n 0, 1) := by decide +kernel
theorem dX8_readFoot_93 : decode cX8_readFoot 93 = .ok (.getfield 110, 3) := by decide +kernel
theorem dX8_readFoot_96 : decode cX8_readFoot 96 = .ok (.dup2, 1) := by decide +kernel
theorem dX8_readFoot_97 : decode cX8_readFoot 97 = .ok (.iaload, 1) := by decide +kernel
theorem dX8_readFoot_98 : decode cX8_readFoot 98 = .ok (.iconst 1, 1) := by decide +kernel
theorem dX8_readFoot_99 : decode cX8_readFoot 99 = .ok (.iadd, 1) := by decide +kernel
theorem dX8_readFoot_100 : decode cX8_readFoot 100 = .ok (.iastore, 1) := by decide +kernel
theorem dX8_readFoot_101 : decode cX8_readFoot 101 = .ok (.iconst 1, 1) := by decide +kernel
theorem dX8_readFoot_102 : decode cX8_readFoot 102 = .ok (.ireturn, 1) := by decide +kernel
theorem dX8_readLine_0 : decode cX8_readLine 0 = .ok (.aload_n 0, 1) := by decide +kernel
theorem dX8_readLine_1 : decode cX8_readLine 1 = .ok (.getfield 32, 3) := by decide +kernel
theorem dX8_readLine_4 : decode cX8_readLine 4 = .ok (.aload_n 0, 1) := by decide +kernel
theorem dX8_readLine_5 : decode cX8_readLine 5 = .ok (.getfield 110, 3) := by decide +kernel
theorem dX8_readLine_8 : decode cX8_readLine 8 = .ok (.iconst 0, 1) := by decide +kernel
theorem dX8_readLine_9 : decode cX8_readLine 9 = .ok (.iastore, 1) := by decide +kernel
theorem dX8_readLine_10 : decode cX8_readLine 10 = .ok (.aload_n 0, 1) := by decide +kernel
theorem dX8_readLine_11 : decode cX8_readLine 11 = .ok (.getfield 32, 3) := by decide +kernel
theorem dX8_readLine_14 : decode cX8_readLine 14 = .ok (.aload_n 0, 1) := by decide +kernel
theorem dX8_readLine_15 : decode cX8_readLine 15 = .ok (.getfield 110, 3) := by decide +kernel
theorem dX8_readLine_18 : decode cX8_readLine 18 = .ok (.iaload, 1) := by decide +kernel
theorem dX8_readLine_19 : decode cX8_readLine 19 = .ok (.bipush 12, 2) := by decide +kernel
theorem dX8_readLine_21 : decode cX8_readLine 21 = .ok (.if_icmp .ge 13, 3) := by decide +kernel
theorem dX8_readLine_24 : decode cX8_readLine 24 = .ok (.aload_n 0, 1) := by decide +kernel
theorem dX8_readLine_25 : decode cX8_readLine 25 = .ok (.invokevirtual 113, 3) := by decide +kernel
theorem dX8_readLine_28 : decode cX8_readLine 28 = .ok (.ifCond .eq 6, 3) := by decide +kernel
theorem dX8_readLine_31 : decode cX8_readLine 31 = .ok (.goto (-21), 3) := by decide +kernel
theorem dX8_readLine_34 : decode cX8_readLine 34 = .ok (.aload_n 0, 1) := by decide +kernel
theorem dX8_readLine_35 : decode cX8_readLine 35 = .ok (.getfield 32, 3) := by decide +kernel
theorem dX8_readLine_38 : decode cX8_readLine 38 = .ok (.aload_n 0, 1) := by decide +kernel
theorem dX8_readLine_39 : decode cX8_readLine 39 = .ok (.getfield 110, 3) := by decide +kernel
theorem dX8_readLine_42 : decode cX8_readLine 42 = .ok (.iaload, 1) := by decide +kernel
theorem dX8_readLine_43 : decode cX8_readLine 43 = .ok (.ifCond .le 7, 3) := by decide +kernel
theorem dX8_readLine_46 : decode cX8_readLine 46 = .ok (.iconst 1, 1) := by decide +kernel
theorem dX8_readLine_47 : decode cX8_readLine 47 = .ok (.goto 4, 3) := by decide +kernel
theorem dX8_readLine_50 : decode cX8_readLine 50 = .ok (.iconst 0, 1) := by decide +kernel
theorem dX8_readLine_51 : decode cX8_readLine 51 = .ok (.istore_n 1, 1) := by decide +kernel
theorem dX8_readLine_52 : decode cX8_readLine 52 = .ok (.aload_n 0, 1) := by decide +kernel
theorem dX8_readLine_53 : decode cX8_readLine 53 = .ok (.dup, 1) := by decide +kernel
theorem dX8_readLine_54 : decode cX8_readLine 54 = .ok (.getfield 110, 3) := by decide +kernel
theorem dX8_readLine_57 : decode cX8_readLine 57 = .ok (.iconst 1, 1) := by decide +kernel
theorem dX8_readLine_58 : decode cX8_readLine 58 = .ok (.iadd, 1) := by decide +kernel
theorem dX8_readLine_59 : decode cX8_readLine 59 = .ok (.putfield 110, 3) := by decide +kernel
theorem dX8_readLine_62 : decode cX8_readLine 62 = .ok (.iload_n 1, 1) := by decide +kernel
theorem dX8_readLine_63 : decode cX8_readLine 63 = .ok (.ireturn, 1) := by decide +kernel
theorem dX8_readPad_0 : decode cX8_readPad 0 = .ok (.aload_n 0, 1) := by decide +kernel
theorem dX8_readPad_1 : decode cX8_readPad 1 = .ok (.iconst 0, 1) := by decide +kernel
theorem dX8_readPad_2 : decode cX8_readPad 2 = .ok (.putfield 104, 3) := by decide +kernel
theorem dX8_readPad_5 : decode cX8_readPad 5 = .ok (.aload_n 0, 1) := by decide +kernel
theorem dX8_readPad_6 : decode cX8_readPad 6 = .ok (.iconst 0, 1) := by decide +kernel
theorem dX8_readPad_7 : decode cX8_readPad 7 = .ok (.putfield 110, 3) := by decide +kernel
theorem dX8_readPad_10 : decode cX8_readPad 10 = .ok (.aload_n 0, 1) := by decide +kernel
theorem dX8_readPad_11 : decode cX8_readPad 11 = .ok (.invokevirtual 116, 3) := by decide +kernel
theorem dX8_readPad_14 : decode cX8_readPad 14 = .ok (.istore_n 1, 1) := by decide +kernel
theorem dX8_readPad_15 : decode cX8_readPad 15 = .ok (.iload_n 1, 1) := by decide +kernel
theorem dX8_readPad_16 : decode cX8_readPad 16 = .ok (.ifCond .eq 29, 3) := by decide +kernel
theorem dX8_readPad_19 : decode cX8_readPad 19 = .ok (.aload_n 0, 1) := by decide +kernel
theorem dX8_readPad_20 : decode cX8_readPad 20 = .ok (.getfield 110, 3) := by decide +kernel
theorem dX8_readPad_23 : decode cX8_readPad 23 = .ok (.bipush 10, 2) := by decide +kernel
theorem dX8_readPad_25 : decode cX8_readPad 25 = .ok (.if_icmp .ge 20, 3) := by decide +kernel
theorem dX8_readPad_28 : decode cX8_readPad 28 = .ok (.aload_n 0, 1) := by decide +kernel
theorem dX8_readPad_29 : decode cX8_readPad 29 = .ok (.bipush 47, 2) := by decide +kernel
theorem dX8_readPad_31 : decode cX8_readPad 31 = .ok (.invokevirtual 107, 3) := by decide +kernel
theorem dX8_readPad_34 : decode cX8_readPad 34 = .ok (.ifCond .eq 11, 3) := by decide +kernel
theorem dX8_readPad_37 : decode cX8_readPad 37 = .ok (.aload_n 0, 1) := by decide +kernel
theorem dX8_readPad_38 : decode cX8_readPad 38 = .ok (.invokevirtual 116, 3) := by decide +kernel
theorem dX8_readPad_41 : decode cX8_readPad 41 = .ok (.istore_n 1, 1) := by decide +kernel
theorem dX8_readPad_42 : decode cX8_readPad 42 = .ok (.goto (-27), 3) := by decide +kernel
theorem dX8_readPad_45 : decode cX8_readPad 45 = .ok (.iload_n 1, 1) := by decide +kernel
theorem dX8_readPad_46 : decode cX8_readPad 46 = .ok (.ifCond .eq 18, 3) := by decide +kernel
theorem dX8_readPad_49 : decode cX8_readPad 49 = .ok (.aload_n 0, 1) := by decide +kernel
theorem dX8_readPad_50 : decode cX8_readPad 50 = .ok (.getfield 104, 3) := by decide +kernel
theorem dX8_readPad_53 : decode cX8_readPad 53 = .ok (.aload_n 0, 1) := by decide +kernel
theorem dX8_readPad_54 : decode cX8_readPad 54 = .ok (.getfield 101, 3) := by decide +kernel
theorem dX8_readPad_57 : decode cX8_readPad 57 = .ok (.if_icmp .ne 7, 3) := by decide +kernel
theorem dX8_readPad_60 : decode cX8_readPad 60 = .ok (.iconst 1, 1) := by decide +kernel
theorem dX8_readPad_61 : decode cX8_readPad 61 = .ok (.goto 4, 3) := by decide +kernel
theorem dX8_readPad_64 : decode cX8_readPad 64 = .ok (.iconst 0, 1) := by decide +kernel
theorem dX8_readPad_65 : decode cX8_readPad 65 = .ok (.ireturn, 1) := by decide +kernel
theorem dX8_fault_0 : decode cX8_fault 0 = .ok (.aload_n 0, 1) := by decide +kernel
theorem dX8_fault_1 : decode cX8_fault 1 = .ok (.invokevirtual 119, 3) := by decide +kernel
theorem dX8_fault_4 : decode cX8_fault 4 = .ok (.ifCond .eq 8, 3) := by decide +kernel
theorem dX8_fault_7 : decode cX8_fault 7 = .ok (.bipush (-6), 2) := by decide +kernel
theorem dX8_fault_9 : decode cX8_fault 9 = .ok (.goto 7, 3) := by decide +kernel
theorem dX8_fault_12 : decode cX8_fault 12 = .ok (.aload_n 0, 1) := by decide +kernel
theorem dX8_fault_13 : decode cX8_fault 13 = .ok (.getfield 104, 3) := by decide +kernel
theorem dX8_fault_16 : decode cX8_fault 16 = .ok (.ireturn, 1) := by decide +kernel
theorem dX8_read_0 : decode cX8_read 0 = .ok (.aload_n 0, 1) := by decide +kernel
theorem dX8_read_1 : decode cX8_read 1 = .ok (.invokevirtual 119, 3) := by decide +kernel
theorem dX8_read_4 : decode cX8_read 4 = .ok (.ifCond .ne 6, 3) := by decide +kernel
theorem dX8_read_7 : decode cX8_read 7 = .ok (.bipush (-3), 2) := by decide +kernel
theorem dX8_read_9 : decode cX8_read 9 = .ok (.ireturn, 1) := by decide +kernel
theorem dX8_read_10 : decode cX8_read 10 = .ok (.aload_n 0, 1) := by decide +kernel
theorem dX8_read_11 : decode cX8_read 11 = .ok (.invokevirtual 50, 3) := by decide +kernel
theorem dX8_read_14 : decode cX8_read 14 = .ok (.aload_n 0, 1) := by decide +kernel
theorem dX8_read_15 : decode cX8_read 15 = .ok (.getfield 7, 3) := by decide +kernel
theorem dX8_read_18 : decode cX8_read 18 = .ok (.bipush 6, 2) := by decide +kernel
theorem dX8_read_20 : decode cX8_read 20 = .ok (.aload_n 0, 1) := by decide +kernel
theorem dX8_read_21 : decode cX8_read 21 = .ok (.getfield 110, 3) := by decide +kernel
theorem dX8_read_24 : decode cX8_read 24 = .ok (.iastore, 1) := by decide +kernel
theorem dX8_read_25 : decode cX8_read 25 = .ok (.iconst 0, 1) := by decide +kernel
theorem dX8_read_26 : decode cX8_read 26 = .ok (.istore_n 1, 1) := by decide +kernel
theorem dX8_read_27 : decode cX8_read 27 = .ok (.iload_n 1, 1) := by decide +kernel
theorem dX8_read_28 : decode cX8_read 28 = .ok (.aload_n 0, 1) := by decide +kernel
theorem dX8_read_29 : decode cX8_read 29 = .ok (.getfield 110, 3) := by decide +kernel
theorem dX8_read_32 : decode cX8_read 32 = .ok (.if_icmp .ge 67, 3) := by decide +kernel
theorem dX8_read_35 : decode cX8_read 35 = .ok (.aload_n 0, 1) := by decide +kernel
theorem dX8_read_36 : decode cX8_read 36 = .ok (.getfield 7, 3) := by decide +kernel
theorem dX8_read_39 : decode cX8_read 39 = .ok (.bipush 8, 2) := by decide +kernel
theorem dX8_read_41 : decode cX8_read 41 = .ok (.iload_n 1, 1) := by decide +kernel
theorem dX8_read_42 : decode cX8_read 42 = .ok (.iadd, 1) := by decide +kernel
theorem dX8_read_43 : decode cX8_read 43 = .ok (.aload_n 0, 1) := by decide +kernel
theorem dX8_read_44 : decode cX8_read 44 = .ok (.getfield 32, 3) := by decide +kernel
theorem dX8_read_47 : decode cX8_read 47 = .ok (.iload_n 1, 1) := by decide +kernel
theorem dX8_read_48 : decode cX8_read 48 = .ok (.iaload, 1) := by decide +kernel
theorem dX8_read_49 : decode cX8_read 49 = .ok (.iastore, 1) := by decide +kernel
theorem dX8_read_50 : decode cX8_read 50 = .ok (.iconst 0, 1) := by decide +kernel
theorem dX8_read_51 : decode cX8_read 51 = .ok (.istore_n 2, 1) := by decide +kernel
theorem dX8_read_52 : decode cX8_read 52 = .ok (.iload_n 2, 1) := by decide +kernel
theorem dX8_read_53 : decode cX8_read 53 = .ok (.aload_n 0, 1) := by decide +kernel
theorem dX8_read_54 : decode cX8_read 54 = .ok (.getfield 32, 3) := by decide +kernel
theorem dX8_read_57 : decode cX8_read 57 = .ok (.iload_n 1, 1) := by decide +kernel
theorem dX8_read_58 : decode cX8_read 58 = .ok (.iaload, 1) := by decide +kernel
theorem dX8_read_59 : decode cX8_read 59 = .ok (.if_icmp .ge 34, 3) := by decide +kernel
theorem dX8_read_62 : decode cX8_read 62 = .ok (.aload_n 0, 1) := by decide +kernel
theorem dX8_read_63 : decode cX8_read 63 = .ok (.getfield 7, 3) := by decide +kernel
theorem dX8_read_66 : decode cX8_read 66 = .ok (.bipush 18, 2) := by decide +kernel
theorem dX8_read_68 : decode cX8_read 68 = .ok (.bipush 12, 2) := by decide +kernel
theorem dX8_read_70 : decode cX8_read 70 = .ok (.iload_n 1, 1) := by decide +kernel
theorem dX8_read_71 : decode cX8_read 71 = .ok (.imul, 1) := by decide +kernel
theorem dX8_read_72 : decode cX8_read 72 = .ok (.iadd, 1) := by decide +kernel
theorem dX8_read_73 : decode cX8_read 73 = .ok (.iload_n 2, 1) := by decide +kernel
theorem dX8_read_74 : decode cX8_read 74 = .ok (.iadd, 1) := by decide +kernel
theorem dX8_read_75 : decode cX8_read 75 = .ok (.aload_n 0, 1) := by decide +kernel
theorem dX8_read_76 : decode cX8_read 76 = .ok (.getfield 29, 3) := by decide +kernel
theorem dX8_read_79 : decode cX8_read 79 = .ok (.bipush 12, 2) := by decide +kernel
theorem dX8_read_81 : decode cX8_read 81 = .ok (.iload_n 1, 1) := by decide +kernel
theorem dX8_read_82 : decode cX8_read 82 = .ok (.imul, 1) := by decide +kernel
theorem dX8_read_83 : decode cX8_read 83 = .ok (.iload_n 2, 1) := by decide +kernel
theorem dX8_read_84 : decode cX8_read 84 = .ok (.iadd, 1) := by decide +kernel
theorem dX8_read_85 : decode cX8_read 85 = .ok (.iaload, 1) := by decide +kernel
theorem dX8_read_86 : decode cX8_read 86 = .ok (.iastore, 1) := by decide +kernel
theorem dX8_read_87 : decode cX8_read 87 = .ok (.iinc 2 1, 3) := by decide +kernel
theorem dX8_read_90 : decode cX8_read 90 = .ok (.goto (-38), 3) := by decide +kernel
theorem dX8_read_93 : decode cX8_read 93 = .ok (.iinc 1 1, 3) := by decide +kernel
theorem dX8_read_96 : decode cX8_read 96 = .ok (.goto (-69), 3) := by decide +kernel
theorem dX8_read_99 : decode cX8_read 99 = .ok (.aload_n 0, 1) := by decide +kernel
theorem dX8_read_100 : decode cX8_read 100 = .ok (.iconst 0, 1) := by decide +kernel
theorem dX8_read_101 : decode cX8_read 101 = .ok (.putfield 101, 3) := by decide +kernel
theorem dX8_read_104 : decode cX8_read 104 = .ok (.aload_n 0, 1) := by decide +kernel
theorem dX8_read_105 : decode cX8_read 105 = .ok (.invokevirtual 35, 3) := by decide +kernel
theorem dX8_read_108 : decode cX8_read 108 = .ok (.aload_n 0, 1) := by decide +kernel
theorem dX8_read_109 : decode cX8_read 109 = .ok (.getfield 110, 3) := by decide +kernel
theorem dX8_read_112 : decode cX8_read 112 = .ok (.ireturn, 1) := by decide +kernel
theorem dX8_sungIn_0 : decode cX8_sungIn 0 = .ok (.iconst 0, 1) := by decide +kernel
theorem dX8_sungIn_1 : decode cX8_sungIn 1 = .ok (.istore_n 2, 1) := by decide +kernel
theorem dX8_sungIn_2 : decode cX8_sungIn 2 = .ok (.iconst 0, 1) := by decide +kernel
theorem dX8_sungIn_3 : decode cX8_sungIn 3 = .ok (.istore_n 3, 1) := by decide +kernel
theorem dX8_sungIn_4 : decode cX8_sungIn 4 = .ok (.iload_n 3, 1) := by decide +kernel
theorem dX8_sungIn_5 : decode cX8_sungIn 5 = .ok (.aload_n 0, 1) := by decide +kernel
theorem dX8_sungIn_6 : decode cX8_sungIn 6 = .ok (.getfield 7, 3) := by decide +kernel
theorem dX8_sungIn_9 : decode cX8_sungIn 9 = .ok (.bipush 8, 2) := by decide +kernel
theorem dX8_sungIn_11 : decode cX8_sungIn 11 = .ok (.iload_n 1, 1) := by decide +kernel
theorem dX8_sungIn_12 : decode cX8_sungIn 12 = .ok (.iadd, 1) := by decide +kernel
theorem dX8_sungIn_13 : decode cX8_sungIn 13 = .ok (.iaload, 1) := by decide +kernel
theorem dX8_sungIn_14 : decode cX8_sungIn 14 = .ok (.if_icmp .ge 18, 3) := by decide +kernel
theorem dX8_sungIn_17 : decode cX8_sungIn 17 = .ok (.iload_n 2, 1) := by decide +kernel
theorem dX8_sungIn_18 : decode cX8_sungIn 18 = .ok (.aload_n 0, 1) := by decide +kernel
theorem dX8_sungIn_19 : decode cX8_sungIn 19 = .ok (.iload_n 1, 1) := by decide +kernel
theorem dX8_sungIn_20 : decode cX8_sungIn 20 = .ok (.iload_n 3, 1) := by decide +kernel
theorem dX8_sungIn_21 : decode cX8_sungIn 21 = .ok (.invokevirtual 61, 3) := by decide +kernel
theorem dX8_sungIn_24 : decode cX8_sungIn 24 = .ok (.iadd, 1) := by decide +kernel
theorem dX8_sungIn_25 : decode cX8_sungIn 25 = .ok (.istore_n 2, 1) := by decide +kernel
theorem dX8_sungIn_26 : decode cX8_sungIn 26 = .ok (.iinc 3 1, 3) := by decide +kernel
theorem dX8_sungIn_29 : decode cX8_sungIn 29 = .ok (.goto (-25), 3) := by decide +kernel
theorem dX8_sungIn_32 : decode cX8_sungIn 32 = .ok (.iload_n 2, 1) := by decide +kernel
theorem dX8_sungIn_33 : decode cX8_sungIn 33 = .ok (.ireturn, 1) := by decide +kernel
theorem dX8_marksIn_0 : decode cX8_marksIn 0 = .ok (.iconst 0, 1) := by decide +kernel
theorem dX8_marksIn_1 : decode cX8_marksIn 1 = .ok (.istore_n 2, 1) := by decide +kernel
theorem dX8_marksIn_2 : decode cX8_marksIn 2 = .ok (.iconst 0, 1) := by decide +kernel
theorem dX8_marksIn_3 : decode cX8_marksIn 3 = .ok (.istore_n 3, 1) := by decide +kernel
theorem dX8_marksIn_4 : decode cX8_marksIn 4 = .ok (.iload_n 3, 1) := by decide +kernel
theorem dX8_marksIn_5 : decode cX8_marksIn 5 = .ok (.aload_n 0, 1) := by decide +kernel
theorem dX8_marksIn_6 : decode cX8_marksIn 6 = .ok (.getfield 7, 3) := by decide +kernel
theorem dX8_marksIn_9 : decode cX8_marksIn 9 = .ok (.bipush 8, 2) := by decide +kernel
theorem dX8_marksIn_11 : decode cX8_marksIn 11 = .ok (.iload_n 1, 1) := by decide +kernel
theorem dX8_marksIn_12 : decode cX8_marksIn 12 = .ok (.iadd, 1) := by decide +kernel
theorem dX8_marksIn_13 : decode cX8_marksIn 13 = .ok (.iaload, 1) := by decide +kernel
theorem dX8_marksIn_14 : decode cX8_marksIn 14 = .ok (.if_icmp .ge 26, 3) := by decide +kernel
theorem dX8_marksIn_17 : decode cX8_marksIn 17 = .ok (.iload_n 2, 1) := by decide +kernel
theorem dX8_marksIn_18 : decode cX8_marksIn 18 = .ok (.aload_n 0, 1) := by decide +kernel
theorem dX8_marksIn_19 : decode cX8_marksIn 19 = .ok (.iload_n 1, 1) := by decide +kernel
theorem dX8_marksIn_20 : decode cX8_marksIn 20 = .ok (.iload_n 3, 1) := by decide +kernel
theorem dX8_marksIn_21 : decode cX8_marksIn 21 = .ok (.invokevirtual 64, 3) := by decide +kernel
theorem dX8_marksIn_24 : decode cX8_marksIn 24 = .ok (.ifCond .eq 7, 3) := by decide +kernel
theorem dX8_marksIn_27 : decode cX8_marksIn 27 = .ok (.iconst 1, 1) := by decide +kernel
theorem dX8_marksIn_28 : decode cX8_marksIn 28 = .ok (.goto 4, 3) := by decide +kernel
theorem dX8_marksIn_31 : decode cX8_marksIn 31 = .ok (.iconst 0, 1) := by decide +kernel
theorem dX8_marksIn_32 : decode cX8_marksIn 32 = .ok (.iadd, 1) := by decide +kernel
theorem dX8_marksIn_33 : decode cX8_marksIn 33 = .ok (.istore_n 2, 1) := by decide +kernel
theorem dX8_marksIn_34 : decode cX8_marksIn 34 = .ok (.iinc 3 1, 3) := by decide +kernel
theorem dX8_marksIn_37 : decode cX8_marksIn 37 = .ok (.goto (-33), 3) := by decide +kernel
theorem dX8_marksIn_40 : decode cX8_marksIn 40 = .ok (.iload_n 2, 1) := by decide +kernel
theorem dX8_marksIn_41 : decode cX8_marksIn 41 = .ok (.ireturn, 1) := by decide +kernel
theorem dX8_line_0 : decode cX8_line 0 = .ok (.aload_n 0, 1) := by decide +kernel
theorem dX8_line_1 : decode cX8_line 1 = .ok (.iload_n 1, 1) := by decide +kernel
theorem dX8_line_2 : decode cX8_line 2 = .ok (.invokevirtual 122, 3) := by decide +kernel
theorem dX8_line_5 : decode cX8_line 5 = .ok (.ifCond .ne 5, 3) := by decide +kernel
theorem dX8_line_8 : decode cX8_line 8 = .ok (.iconst (-1), 1) := by decide +kernel
theorem dX8_line_9 : decode cX8_line 9 = .ok (.ireturn, 1) := by decide +kernel
theorem dX8_line_10 : decode cX8_line 10 = .ok (.iload_n 2, 1) := by decide +kernel
theorem dX8_line_11 : decode cX8_line 11 = .ok (.tableswitch 70 0 3 #[29, 39, 45, 51], 29) := by decide +kernel
theorem dX8_line_40 : decode cX8_line 40 = .ok (.aload_n 0, 1) := by decide +kernel
theorem dX8_line_41 : decode cX8_line 41 = .ok (.getfield 7, 3) := by decide +kernel
theorem dX8_line_44 : decode cX8_line 44 = .ok (.bipush 8, 2) := by decide +kernel
theorem dX8_line_46 : decode cX8_line 46 = .ok (.iload_n 1, 1) := by decide +kernel
theorem dX8_line_47 : decode cX8_line 47 = .ok (.iadd, 1) := by decide +kernel
theorem dX8_line_48 : decode cX8_line 48 = .ok (.iaload, 1) := by decide +kernel
theorem dX8_line_49 : decode cX8_line 49 = .ok (.ireturn, 1) := by decide +kernel
theorem dX8_line_50 : decode cX8_line 50 = .ok (.aload_n 0, 1) := by decide +kernel
theorem dX8_line_51 : decode cX8_line 51 = .ok (.iload_n 1, 1) := by decide +kernel
theorem dX8_line_52 : decode cX8_line 52 = .ok (.invokevirtual 125, 3) := by decide +kernel
theorem dX8_line_55 : decode cX8_line 55 = .ok (.ireturn, 1) := by decide +kernel
theorem dX8_line_56 : decode cX8_line 56 = .ok (.aload_n 0, 1) := by decide +kernel
theorem dX8_line_57 : decode cX8_line 57 = .ok (.iload_n 1, 1) := by decide +kernel
theorem dX8_line_58 : decode cX8_line 58 = .ok (.invokevirtual 128, 3) := by decide +kernel
theorem dX8_line_61 : decode cX8_line 61 = .ok (.ireturn, 1) := by decide +kernel
theorem dX8_line_62 : decode cX8_line 62 = .ok (.aload_n 0, 1) := by decide +kernel
theorem dX8_line_63 : decode cX8_line 63 = .ok (.iload_n 1, 1) := by decide +kernel
theorem dX8_line_64 : decode cX8_line 64 = .ok (.invokevirtual 125, 3) := by decide +kernel
theorem dX8_line_67 : decode cX8_line 67 = .ok (.aload_n 0, 1) := by decide +kernel
theorem dX8_line_68 : decode cX8_line 68 = .ok (.getfield 7, 3) := by decide +kernel
theorem dX8_line_71 : decode cX8_line 71 = .ok (.iconst 1, 1) := by decide +kernel
theorem dX8_line_72 : decode cX8_line 72 = .ok (.iaload, 1) := by decide +kernel
theorem dX8_line_73 : decode cX8_line 73 = .ok (.aload_n 0, 1) := by decide +kernel
theorem dX8_line_74 : decode cX8_line 74 = .ok (.iload_n 1, 1) := by decide +kernel
theorem dX8_line_75 : decode cX8_line 75 = .ok (.invokevirtual 128, 3) := by decide +kernel
theorem dX8_line_78 : decode cX8_line 78 = .ok (.imul, 1) := by decide +kernel
theorem dX8_line_79 : decode cX8_line 79 = .ok (.iadd, 1) := by decide +kernel
theorem dX8_line_80 : decode cX8_line 80 = .ok (.ireturn, 1) := by decide +kernel
theorem dX8_line_81 : decode cX8_line 81 = .ok (.bipush (-2), 2) := by decide +kernel
theorem dX8_line_83 : decode cX8_line 83 = .ok (.ireturn, 1) := by decide +kernel
theorem dX8_foot_0 : decode cX8_foot 0 = .ok (.aload_n 0, 1) := by decide +kernel
theorem dX8_foot_1 : decode cX8_foot 1 = .ok (.iload_n 1, 1) := by decide +kernel
theorem dX8_foot_2 : decode cX8_foot 2 = .ok (.invokevirtual 122, 3) := by decide +kernel
theorem dX8_foot_5 : decode cX8_foot 5 = .ok (.ifCond .eq 22, 3) := by decide +kernel
theorem dX8_foot_8 : decode cX8_foot 8 = .ok (.iload_n 2, 1) := by decide +kernel
theorem dX8_foot_9 : decode cX8_foot 9 = .ok (.iconst 0, 1) := by decide +kernel
theorem dX8_foot_10 : decode cX8_foot 10 = .ok (.aload_n 0, 1) := by decide +kernel
theorem dX8_foot_11 : decode cX8_foot 11 = .ok (.getfield 7, 3) := by decide +kernel
theorem dX8_foot_14 : decode cX8_foot 14 = .ok (.bipush 8, 2) := by decide +kernel
theorem dX8_foot_16 : decode cX8_foot 16 = .ok (.iload_n 1, 1) := by decide +kernel
theorem dX8_foot_17 : decode cX8_foot 17 = .ok (.iadd, 1) := by decide +kernel
theorem dX8_foot_18 : decode cX8_foot 18 = .ok (.iaload, 1) := by decide +kernel
theorem dX8_foot_19 : decode cX8_foot 19 = .ok (.iconst 1, 1) := by decide +kernel
theorem dX8_foot_20 : decode cX8_foot 20 = .ok (.isub, 1) := by decide +kernel
theorem dX8_foot_21 : decode cX8_foot 21 = .ok (.invokestatic 38, 3) := by decide +kernel
theorem dX8_foot_24 : decode cX8_foot 24 = .ok (.ifCond .ne 5, 3) := by decide +kernel
theorem dX8_foot_27 : decode cX8_foot 27 = .ok (.iconst (-1), 1) := by decide +kernel
theorem dX8_foot_28 : decode cX8_foot 28 = .ok (.ireturn, 1) := by decide +kernel
theorem dX8_foot_29 : decode cX8_foot 29 = .ok (.iload_n 3, 1) := by decide +kernel
theorem dX8_foot_30 : decode cX8_foot 30 = .ok (.ifCond .ne 12, 3) := by decide +kernel
theorem dX8_foot_33 : decode cX8_foot 33 = .ok (.aload_n 0, 1) := by decide +kernel
theorem dX8_foot_34 : decode cX8_foot 34 = .ok (.iload_n 1, 1) := by decide +kernel
theorem dX8_foot_35 : decode cX8_foot 35 = .ok (.iload_n 2, 1) := by decide +kernel
theorem dX8_foot_36 : decode cX8_foot 36 = .ok (.invokevirtual 61, 3) := by decide +kernel
theorem dX8_foot_39 : decode cX8_foot 39 = .ok (.goto 27, 3) := by decide +kernel
theorem dX8_foot_42 : decode cX8_foot 42 = .ok (.iload_n 3, 1) := by decide +kernel
theorem dX8_foot_43 : decode cX8_foot 43 = .ok (.iconst 1, 1) := by decide +kernel
theorem dX8_foot_44 : decode cX8_foot 44 = .ok (.if_icmp .ne 20, 3) := by decide +kernel
theorem dX8_foot_47 : decode cX8_foot 47 = .ok (.aload_n 0, 1) := by decide +kernel
theorem dX8_foot_48 : decode cX8_foot 48 = .ok (.iload_n 1, 1) := by decide +kernel
theorem dX8_foot_49 : decode cX8_foot 49 = .ok (.iload_n 2, 1) := by decide +kernel
theorem dX8_foot_50 : decode cX8_foot 50 = .ok (.invokevirtual 64, 3) := by decide +kernel
theorem dX8_foot_53 : decode cX8_foot 53 = .ok (.ifCond .eq 7, 3) := by decide +kernel
theorem dX8_foot_56 : decode cX8_foot 56 = .ok (.iconst 1, 1) := by decide +kernel
theorem dX8_foot_57 : decode cX8_foot 57 = .ok (.goto 9, 3) := by decide +kernel
theorem dX8_foot_60 : decode cX8_foot 60 = .ok (.iconst 0, 1) := by decide +kernel
theorem dX8_foot_61 : decode cX8_foot 61 = .ok (.goto 5, 3) := by decide +kernel
theorem dX8_foot_64 : decode cX8_foot 64 = .ok (.bipush (-2), 2) := by decide +kernel
theorem dX8_foot_66 : decode cX8_foot 66 = .ok (.ireturn, 1) := by decide +kernel
theorem dX8_sungFor_0 : decode cX8_sungFor 0 = .ok (.iconst 0, 1) := by decide +kernel
theorem dX8_sungFor_1 : decode cX8_sungFor 1 = .ok (.istore_n 3, 1) := by decide +kernel
theorem dX8_sungFor_2 : decode cX8_sungFor 2 = .ok (.iconst 0, 1) := by decide +kernel
theorem dX8_sungFor_3 : decode cX8_sungFor 3 = .ok (.istore 4, 2) := by decide +kernel
theorem dX8_sungFor_5 : decode cX8_sungFor 5 = .ok (.iload 4, 2) := by decide +kernel
theorem dX8_sungFor_7 : decode cX8_sungFor 7 = .ok (.iload_n 1, 1) := by decide +kernel
theorem dX8_sungFor_8 : decode cX8_sungFor 8 = .ok (.if_icmp .ge 34, 3) := by decide +kernel
theorem dX8_sungFor_11 : decode cX8_sungFor 11 = .ok (.iinc 3 1, 3) := by decide +kernel
theorem dX8_sungFor_14 : decode cX8_sungFor 14 = .ok (.iload 4, 2) := by decide +kernel
theorem dX8_sungFor_16 : decode cX8_sungFor 16 = .ok (.iload_n 2, 1) := by decide +kernel
theorem dX8_sungFor_17 : decode cX8_sungFor 17 = .ok (.ifCond .eq 18, 3) := by decide +kernel
theorem dX8_sungFor_20 : decode cX8_sungFor 20 = .ok (.iload_n 3, 1) := by decide +kernel
theorem dX8_sungFor_21 : decode cX8_sungFor 21 = .ok (.aload_n 0, 1) := by decide +kernel
theorem dX8_sungFor_22 : decode cX8_sungFor 22 = .ok (.getfield 7, 3) := by decide +kernel
theorem dX8_sungFor_25 : decode cX8_sungFor 25 = .ok (.iconst 5, 1) := by decide +kernel
theorem dX8_sungFor_26 : decode cX8_sungFor 26 = .ok (.iaload, 1) := by decide +kernel
theorem dX8_sungFor_27 : decode cX8_sungFor 27 = .ok (.irem, 1) := by decide +kernel
theorem dX8_sungFor_28 : decode cX8_sungFor 28 = .ok (.ifCond .ne 7, 3) := by decide +kernel
theorem dX8_sungFor_31 : decode cX8_sungFor 31 = .ok (.iconst 0, 1) := by decide +kernel
theorem dX8_sungFor_32 : decode cX8_sungFor 32 = .ok (.goto 4, 3) := by decide +kernel
theorem dX8_sungFor_35 : decode cX8_sungFor 35 = .ok (.iconst 1, 1) := by decide +kernel
theorem dX8_sungFor_36 : decode cX8_sungFor 36 = .ok (.iadd, 1) := by decide +kernel
theorem dX8_sungFor_37 : decode cX8_sungFor 37 = .ok (.istore 4, 2) := by decide +kernel
theorem dX8_sungFor_39 : decode cX8_sungFor 39 = .ok (.goto (-34), 3) := by decide +kernel
theorem dX8_sungFor_42 : decode cX8_sungFor 42 = .ok (.iload_n 3, 1) := by decide +kernel
theorem dX8_sungFor_43 : decode cX8_sungFor 43 = .ok (.ireturn, 1) := by decide +kernel
theorem dX8_stretch_0 : decode cX8_stretch 0 = .ok (.aload_n 0, 1) := by decide +kernel
theorem dX8_stretch_1 : decode cX8_stretch 1 = .ok (.iload_n 1, 1) := by decide +kernel
theorem dX8_stretch_2 : decode cX8_stretch 2 = .ok (.invokevirtual 95, 3) := by decide +kernel
theorem dX8_stretch_5 : decode cX8_stretch 5 = .ok (.ifCond .ne 5, 3) := by decide +kernel
theorem dX8_stretch_8 : decode cX8_stretch 8 = .ok (.iconst (-1), 1) := by decide +kernel
theorem dX8_stretch_9 : decode cX8_stretch 9 = .ok (.ireturn, 1) := by decide +kernel
theorem dX8_stretch_10 : decode cX8_stretch 10 = .ok (.iload_n 2, 1) := by decide +kernel
theorem dX8_stretch_11 : decode cX8_stretch 11 = .ok (.tableswitch 78 0 3 #[29, 36, 45, 52], 29) := by decide +kernel
theorem dX8_stretch_40 : decode cX8_stretch 40 = .ok (.aload_n 0, 1) := by decide +kernel
theorem dX8_stretch_41 : decode cX8_stretch 41 = .ok (.iload_n 1, 1) := by decide +kernel
theorem dX8_stretch_42 : decode cX8_stretch 42 = .ok (.iconst 0, 1) := by decide +kernel
theorem dX8_stretch_43 : decode cX8_stretch 43 = .ok (.invokevirtual 53, 3) := by decide +kernel
theorem dX8_stretch_46 : decode cX8_stretch 46 = .ok (.ireturn, 1) := by decide +kernel
theorem dX8_stretch_47 : decode cX8_stretch 47 = .ok (.aload_n 0, 1) := by decide +kernel
theorem dX8_stretch_48 : decode cX8_stretch 48 = .ok (.iload_n 1, 1) := by decide +kernel
theorem dX8_stretch_49 : decode cX8_stretch 49 = .ok (.iconst 1, 1) := by decide +kernel
theorem dX8_stretch_50 : decode cX8_stretch 50 = .ok (.invokevirtual 53, 3) := by decide +kernel
theorem dX8_stretch_53 : decode cX8_stretch 53 = .ok (.iconst 3, 1) := by decide +kernel
theorem dX8_stretch_54 : decode cX8_stretch 54 = .ok (.iadd, 1) := by decide +kernel
theorem dX8_stretch_55 : decode cX8_stretch 55 = .ok (.ireturn, 1) := by decide +kernel
theorem dX8_stretch_56 : decode cX8_stretch 56 = .ok (.aload_n 0, 1) := by decide +kernel
theorem dX8_stretch_57 : decode cX8_stretch 57 = .ok (.iload_n 1, 1) := by decide +kernel
theorem dX8_stretch_58 : decode cX8_stretch 58 = .ok (.iconst 2, 1) := by decide +kernel
theorem dX8_stretch_59 : decode cX8_stretch 59 = .ok (.invokevirtual 53, 3) := by decide +kernel
theorem dX8_stretch_62 : decode cX8_stretch 62 = .ok (.ireturn, 1) := by decide +kernel
theorem dX8_stretch_63 : decode cX8_stretch 63 = .ok (.aload_n 0, 1) := by decide +kernel
theorem dX8_stretch_64 : decode cX8_stretch 64 = .ok (.aload_n 0, 1) := by decide +kernel
theorem dX8_stretch_65 : decode cX8_stretch 65 = .ok (.iload_n 1, 1) := by decide +kernel
theorem dX8_stretch_66 : decode cX8_stretch 66 = .ok (.iconst 0, 1) := by decide +kernel
theorem dX8_stretch_67 : decode cX8_stretch 67 = .ok (.invokevirtual 53, 3) := by decide +kernel
theorem dX8_stretch_70 : decode cX8_stretch 70 = .ok (.aload_n 0, 1) := by decide +kernel
theorem dX8_stretch_71 : decode cX8_stretch 71 = .ok (.iload_n 1, 1) := by decide +kernel
theorem dX8_stretch_72 : decode cX8_stretch 72 = .ok (.iconst 2, 1) := by decide +kernel
theorem dX8_stretch_73 : decode cX8_stretch 73 = .ok (.invokevirtual 53, 3) := by decide +kernel
theorem dX8_stretch_76 : decode cX8_stretch 76 = .ok (.iconst 1, 1) := by decide +kernel
theorem dX8_stretch_77 : decode cX8_stretch 77 = .ok (.if_icmp .ne 7, 3) := by decide +kernel
theorem dX8_stretch_80 : decode cX8_stretch 80 = .ok (.iconst 1, 1) := by decide +kernel
theorem dX8_stretch_81 : decode cX8_stretch 81 = .ok (.goto 4, 3) := by decide +kernel
theorem dX8_stretch_84 : decode cX8_stretch 84 = .ok (.iconst 0, 1) := by decide +kernel
theorem dX8_stretch_85 : decode cX8_stretch 85 = .ok (.invokevirtual 131, 3) := by decide +kernel
theorem dX8_stretch_88 : decode cX8_stretch 88 = .ok (.ireturn, 1) := by decide +kernel
theorem dX8_stretch_89 : decode cX8_stretch 89 = .ok (.bipush (-2), 2) := by decide +kernel
theorem dX8_stretch_91 : decode cX8_stretch 91 = .ok (.ireturn, 1) := by decide +kernel
theorem dX8_walk_0 : decode cX8_walk 0 = .ok (.iload_n 1, 1) := by decide +kernel
theorem dX8_walk_1 : decode cX8_walk 1 = .ok (.iconst 0, 1) := by decide +kernel
theorem dX8_walk_2 : decode cX8_walk 2 = .ok (.bipush 14, 2) := by decide +kernel
theorem dX8_walk_4 : decode cX8_walk 4 = .ok (.invokestatic 38, 3) := by decide +kernel
theorem dX8_walk_7 : decode cX8_walk 7 = .ok (.ifCond .eq 16, 3) := by decide +kernel
theorem dX8_walk_10 : decode cX8_walk 10 = .ok (.aload_n 0, 1) := by decide +kernel
theorem dX8_walk_11 : decode cX8_walk 11 = .ok (.getfield 7, 3) := by decide +kernel
theorem dX8_walk_14 : decode cX8_walk 14 = .ok (.sipush 174, 3) := by decide +kernel
theorem dX8_walk_17 : decode cX8_walk 17 = .ok (.iload_n 1, 1) := by decide +kernel
theorem dX8_walk_18 : decode cX8_walk 18 = .ok (.iadd, 1) := by decide +kernel
theorem dX8_walk_19 : decode cX8_walk 19 = .ok (.iaload, 1) := by decide +kernel
theorem dX8_walk_20 : decode cX8_walk 20 = .ok (.goto 5, 3) := by decide +kernel
theorem dX8_walk_23 : decode cX8_walk 23 = .ok (.bipush (-2), 2) := by decide +kernel
theorem dX8_walk_25 : decode cX8_walk 25 = .ok (.ireturn, 1) := by decide +kernel
theorem dX8_sungInSong_0 : decode cX8_sungInSong 0 = .ok (.iconst 0, 1) := by decide +kernel
theorem dX8_sungInSong_1 : decode cX8_sungInSong 1 = .ok (.istore_n 1, 1) := by decide +kernel
theorem dX8_sungInSong_2 : decode cX8_sungInSong 2 = .ok (.iconst 0, 1) := by decide +kernel
theorem dX8_sungInSong_3 : decode cX8_sungInSong 3 = .ok (.istore_n 2, 1) := by decide +kernel
theorem dX8_sungInSong_4 : decode cX8_sungInSong 4 = .ok (.iload_n 2, 1) := by decide +kernel
theorem dX8_sungInSong_5 : decode cX8_sungInSong 5 = .ok (.aload_n 0, 1) := by decide +kernel
theorem dX8_sungInSong_6 : decode cX8_sungInSong 6 = .ok (.getfield 7, 3) := by decide +kernel
theorem dX8_sungInSong_9 : decode cX8_sungInSong 9 = .ok (.bipush 6, 2) := by decide +kernel
theorem dX8_sungInSong_11 : decode cX8_sungInSong 11 = .ok (.iaload, 1) := by decide +kernel
theorem dX8_sungInSong_12 : decode cX8_sungInSong 12 = .ok (.if_icmp .ge 17, 3) := by decide +kernel
theorem dX8_sungInSong_15 : decode cX8_sungInSong 15 = .ok (.iload_n 1, 1) := by decide +kernel
theorem dX8_sungInSong_16 : decode cX8_sungInSong 16 = .ok (.aload_n 0, 1) := by decide +kernel
theorem dX8_sungInSong_17 : decode cX8_sungInSong 17 = .ok (.iload_n 2, 1) := by decide +kernel
theorem dX8_sungInSong_18 : decode cX8_sungInSong 18 = .ok (.invokevirtual 125, 3) := by decide +kernel
theorem dX8_sungInSong_21 : decode cX8_sungInSong 21 = .ok (.iadd, 1) := by decide +kernel
theorem dX8_sungInSong_22 : decode cX8_sungInSong 22 = .ok (.istore_n 1, 1) := by decide +kernel
theorem dX8_sungInSong_23 : decode cX8_sungInSong 23 = .ok (.iinc 2 1, 3) := by decide +kernel
theorem dX8_sungInSong_26 : decode cX8_sungInSong 26 = .ok (.goto (-22), 3) := by decide +kernel
theorem dX8_sungInSong_29 : decode cX8_sungInSong 29 = .ok (.iload_n 1, 1) := by decide +kernel
theorem dX8_sungInSong_30 : decode cX8_sungInSong 30 = .ok (.ireturn, 1) := by decide +kernel
theorem dX8_marksInSong_0 : decode cX8_marksInSong 0 = .ok (.iconst 0, 1) := by decide +kernel
theorem dX8_marksInSong_1 : decode cX8_marksInSong 1 = .ok (.istore_n 1, 1) := by decide +kernel
theorem dX8_marksInSong_2 : decode cX8_marksInSong 2 = .ok (.iconst 0, 1) := by decide +kernel
theorem dX8_marksInSong_3 : decode cX8_marksInSong 3 = .ok (.istore_n 2, 1) := by decide +kernel
theorem dX8_marksInSong_4 : decode cX8_marksInSong 4 = .ok (.iload_n 2, 1) := by decide +kernel
theorem dX8_marksInSong_5 : decode cX8_marksInSong 5 = .ok (.aload_n 0, 1) := by decide +kernel
theorem dX8_marksInSong_6 : decode cX8_marksInSong 6 = .ok (.getfield 7, 3) := by decide +kernel
theorem dX8_marksInSong_9 : decode cX8_marksInSong 9 = .ok (.bipush 6, 2) := by decide +kernel
theorem dX8_marksInSong_11 : decode cX8_marksInSong 11 = .ok (.iaload, 1) := by decide +kernel
theorem dX8_marksInSong_12 : decode cX8_marksInSong 12 = .ok (.if_icmp .ge 17, 3) := by decide +kernel
theorem dX8_marksInSong_15 : decode cX8_marksInSong 15 = .ok (.iload_n 1, 1) := by decide +kernel
theorem dX8_marksInSong_16 : decode cX8_marksInSong 16 = .ok (.aload_n 0, 1) := by decide +kernel
theorem dX8_marksInSong_17 : decode cX8_marksInSong 17 = .ok (.iload_n 2, 1) := by decide +kernel
theorem dX8_marksInSong_18 : decode cX8_marksInSong 18 = .ok (.invokevirtual 128, 3) := by decide +kernel
theorem dX8_marksInSong_21 : decode cX8_marksInSong 21 = .ok (.iadd, 1) := by decide +kernel
theorem dX8_marksInSong_22 : decode cX8_marksInSong 22 = .ok (.istore_n 1, 1) := by decide +kernel
theorem dX8_marksInSong_23 : decode cX8_marksInSong 23 = .ok (.iinc 2 1, 3) := by decide +kernel
theorem dX8_marksInSong_26 : decode cX8_marksInSong 26 = .ok (.goto (-22), 3) := by decide +kernel
theorem dX8_marksInSong_29 : decode cX8_marksInSong 29 = .ok (.iload_n 1, 1) := by decide +kernel
theorem dX8_marksInSong_30 : decode cX8_marksInSong 30 = .ok (.ireturn, 1) := by decide +kernel
theorem dX8_stepsOfRoad_0 : decode cX8_stepsOfRoad 0 = .ok (.iconst 0, 1) := by decide +kernel
theorem dX8_stepsOfRoad_1 : decode cX8_stepsOfRoad 1 = .ok (.istore_n 1, 1) := by decide +kernel
theorem dX8_stepsOfRoad_2 : decode cX8_stepsOfRoad 2 = .ok (.iconst 0, 1) := by decide +kernel
theorem dX8_stepsOfRoad_3 : decode cX8_stepsOfRoad 3 = .ok (.istore_n 2, 1) := by decide +kernel
theorem dX8_stepsOfRoad_4 : decode cX8_stepsOfRoad 4 = .ok (.iload_n 2, 1) := by decide +kernel
theorem dX8_stepsOfRoad_5 : decode cX8_stepsOfRoad 5 = .ok (.aload_n 0, 1) := by decide +kernel
theorem dX8_stepsOfRoad_6 : decode cX8_stepsOfRoad 6 = .ok (.getfield 7, 3) := by decide +kernel
theorem dX8_stepsOfRoad_9 : decode cX8_stepsOfRoad 9 = .ok (.bipush 7, 2) := by decide +kernel
theorem dX8_stepsOfRoad_11 : decode cX8_stepsOfRoad 11 = .ok (.iaload, 1) := by decide +kernel
theorem dX8_stepsOfRoad_12 : decode cX8_stepsOfRoad 12 = .ok (.if_icmp .ge 18, 3) := by decide +kernel
theorem dX8_stepsOfRoad_15 : decode cX8_stepsOfRoad 15 = .ok (.iload_n 1, 1) := by decide +kernel
theorem dX8_stepsOfRoad_16 : decode cX8_stepsOfRoad 16 = .ok (.aload_n 0, 1) := by decide +kernel
theorem dX8_stepsOfRoad_17 : decode cX8_stepsOfRoad 17 = .ok (.iload_n 2, 1) := by decide +kernel
theorem dX8_stepsOfRoad_18 : decode cX8_stepsOfRoad 18 = .ok (.iconst 0, 1) := by decide +kernel
theorem dX8_stepsOfRoad_19 : decode cX8_stepsOfRoad 19 = .ok (.invokevirtual 53, 3) := by decide +kernel
theorem dX8_stepsOfRoad_22 : decode cX8_stepsOfRoad 22 = .ok (.iadd, 1) := by decide +kernel
theorem dX8_stepsOfRoad_23 : decode cX8_stepsOfRoad 23 = .ok (.istore_n 1, 1) := by decide +kernel
theorem dX8_stepsOfRoad_24 : decode cX8_stepsOfRoad 24 = .ok (.iinc 2 1, 3) := by decide +kernel
theorem dX8_stepsOfRoad_27 : decode cX8_stepsOfRoad 27 = .ok (.goto (-23), 3) := by decide +kernel
theorem dX8_stepsOfRoad_30 : decode cX8_stepsOfRoad 30 = .ok (.iload_n 1, 1) := by decide +kernel
theorem dX8_stepsOfRoad_31 : decode cX8_stepsOfRoad 31 = .ok (.ireturn, 1) := by decide +kernel
theorem dX8_count_0 : decode cX8_count 0 = .ok (.iload_n 1, 1) := by decide +kernel
theorem dX8_count_1 : decode cX8_count 1 = .ok (.tableswitch 107 0 12 #[67, 67, 67, 67, 67, 67, 67, 74, 79, 84, 92, 97, 102], 67) := by decide +kernel
theorem dX8_count_68 : decode cX8_count 68 = .ok (.aload_n 0, 1) := by decide +kernel
theorem dX8_count_69 : decode cX8_count 69 = .ok (.getfield 7, 3) := by decide +kernel
theorem dX8_count_72 : decode cX8_count 72 = .ok (.iload_n 1, 1) := by decide +kernel
theorem dX8_count_73 : decode cX8_count 73 = .ok (.iaload, 1) := by decide +kernel
theorem dX8_count_74 : decode cX8_count 74 = .ok (.ireturn, 1) := by decide +kernel
theorem dX8_count_75 : decode cX8_count 75 = .ok (.aload_n 0, 1) := by decide +kernel
theorem dX8_count_76 : decode cX8_count 76 = .ok (.invokevirtual 135, 3) := by decide +kernel
theorem dX8_count_79 : decode cX8_count 79 = .ok (.ireturn, 1) := by decide +kernel
theorem dX8_count_80 : decode cX8_count 80 = .ok (.aload_n 0, 1) := by decide +kernel
theorem dX8_count_81 : decode cX8_count 81 = .ok (.invokevirtual 138, 3) := by decide +kernel
theorem dX8_count_84 : decode cX8_count 84 = .ok (.ireturn, 1) := by decide +kernel
theorem dX8_count_85 : decode cX8_count 85 = .ok (.aload_n 0, 1) := by decide +kernel
theorem dX8_count_86 : decode cX8_count 86 = .ok (.getfield 7, 3) := by decide +kernel
theorem dX8_count_89 : decode cX8_count 89 = .ok (.bipush 7, 2) := by decide +kernel
theorem dX8_count_91 : decode cX8_count 91 = .ok (.iaload, 1) := by decide +kernel
theorem dX8_count_92 : decode cX8_count 92 = .ok (.ireturn, 1) := by decide +kernel
theorem dX8_count_93 : decode cX8_count 93 = .ok (.aload_n 0, 1) := by decide +kernel
theorem dX8_count_94 : decode cX8_count 94 = .ok (.invokevirtual 141, 3) := by decide +kernel
theorem dX8_count_97 : decode cX8_count 97 = .ok (.ireturn, 1) := by decide +kernel
theorem dX8_count_98 : decode cX8_count 98 = .ok (.aload_n 0, 1) := by decide +kernel
theorem dX8_count_99 : decode cX8_count 99 = .ok (.getfield 101, 3) := by decide +kernel
theorem dX8_count_102 : decode cX8_count 102 = .ok (.ireturn, 1) := by decide +kernel
theorem dX8_count_103 : decode cX8_count 103 = .ok (.aload_n 0, 1) := by decide +kernel
theorem dX8_count_104 : decode cX8_count 104 = .ok (.getfield 42, 3) := by decide +kernel
theorem dX8_count_107 : decode cX8_count 107 = .ok (.ireturn, 1) := by decide +kernel
theorem dX8_count_108 : decode cX8_count 108 = .ok (.bipush (-2), 2) := by decide +kernel
theorem dX8_count_110 : decode cX8_count 110 = .ok (.ireturn, 1) := by decide +kernel
theorem dX8_untilWalked_0 : decode cX8_untilWalked 0 = .ok (.iload_n 1, 1) := by decide +kernel
theorem dX8_untilWalked_1 : decode cX8_untilWalked 1 = .ok (.iconst 0, 1) := by decide +kernel
theorem dX8_untilWalked_2 : decode cX8_untilWalked 2 = .ok (.iconst 3, 1) := by decide +kernel
theorem dX8_untilWalked_3 : decode cX8_untilWalked 3 = .ok (.invokestatic 38, 3) := by decide +kernel
theorem dX8_untilWalked_6 : decode cX8_untilWalked 6 = .ok (.ifCond .ne 6, 3) := by decide +kernel
theorem dX8_untilWalked_9 : decode cX8_untilWalked 9 = .ok (.bipush (-2), 2) := by decide +kernel
theorem dX8_untilWalked_11 : decode cX8_untilWalked 11 = .ok (.ireturn, 1) := by decide +kernel
theorem dX8_untilWalked_12 : decode cX8_untilWalked 12 = .ok (.aload_n 0, 1) := by decide +kernel
theorem dX8_untilWalked_13 : decode cX8_untilWalked 13 = .ok (.invokevirtual 84, 3) := by decide +kernel
theorem dX8_untilWalked_16 : decode cX8_untilWalked 16 = .ok (.ifCond .ne 6, 3) := by decide +kernel
theorem dX8_untilWalked_19 : decode cX8_untilWalked 19 = .ok (.bipush (-5), 2) := by decide +kernel
theorem dX8_untilWalked_21 : decode cX8_untilWalked 21 = .ok (.ireturn, 1) := by decide +kernel
theorem dX8_untilWalked_22 : decode cX8_untilWalked 22 = .ok (.iload_n 1, 1) := by decide +kernel
theorem dX8_untilWalked_23 : decode cX8_untilWalked 23 = .ok (.ifCond .ne 9, 3) := by decide +kernel
theorem dX8_untilWalked_26 : decode cX8_untilWalked 26 = .ok (.sipush 174, 3) := by decide +kernel
theorem dX8_untilWalked_29 : decode cX8_untilWalked 29 = .ok (.goto 28, 3) := by decide +kernel
theorem dX8_untilWalked_32 : decode cX8_untilWalked 32 = .ok (.iload_n 1, 1) := by decide +kernel
theorem dX8_untilWalked_33 : decode cX8_untilWalked 33 = .ok (.iconst 1, 1) := by decide +kernel
theorem dX8_untilWalked_34 : decode cX8_untilWalked 34 = .ok (.if_icmp .ne 9, 3) := by decide +kernel
theorem dX8_untilWalked_37 : decode cX8_untilWalked 37 = .ok (.sipush 175, 3) := by decide +kernel
theorem dX8_untilWalked_40 : decode cX8_untilWalked 40 = .ok (.goto 17, 3) := by decide +kernel
theorem dX8_untilWalked_43 : decode cX8_untilWalked 43 = .ok (.iload_n 1, 1) := by decide +kernel
theorem dX8_untilWalked_44 : decode cX8_untilWalked 44 = .ok (.iconst 2, 1) := by decide +kernel
theorem dX8_untilWalked_45 : decode cX8_untilWalked 45 = .ok (.if_icmp .ne 9, 3) := by decide +kernel
theorem dX8_untilWalked_48 : decode cX8_untilWalked 48 = .ok (.sipush 185, 3) := by decide +kernel
theorem dX8_untilWalked_51 : decode cX8_untilWalked 51 = .ok (.goto 6, 3) := by decide +kernel
theorem dX8_untilWalked_54 : decode cX8_untilWalked 54 = .ok (.sipush 186, 3) := by decide +kernel
theorem dX8_untilWalked_57 : decode cX8_untilWalked 57 = .ok (.istore_n 2, 1) := by decide +kernel
theorem dX8_untilWalked_58 : decode cX8_untilWalked 58 = .ok (.aload_n 0, 1) := by decide +kernel
theorem dX8_untilWalked_59 : decode cX8_untilWalked 59 = .ok (.getfield 7, 3) := by decide +kernel
theorem dX8_untilWalked_62 : decode cX8_untilWalked 62 = .ok (.iconst 0, 1) := by decide +kernel
theorem dX8_untilWalked_63 : decode cX8_untilWalked 63 = .ok (.aload_n 0, 1) := by decide +kernel
theorem dX8_untilWalked_64 : decode cX8_untilWalked 64 = .ok (.getfield 13, 3) := by decide +kernel
theorem dX8_untilWalked_67 : decode cX8_untilWalked 67 = .ok (.iconst 0, 1) := by decide +kernel
theorem dX8_untilWalked_68 : decode cX8_untilWalked 68 = .ok (.invokestatic 46, 3) := by decide +kernel
theorem dX8_untilWalked_71 : decode cX8_untilWalked 71 = .ok (.aload_n 0, 1) := by decide +kernel
theorem dX8_untilWalked_72 : decode cX8_untilWalked 72 = .ok (.sipush 5000, 3) := by decide +kernel
theorem dX8_untilWalked_75 : decode cX8_untilWalked 75 = .ok (.invokevirtual 88, 3) := by decide +kernel
theorem dX8_untilWalked_78 : decode cX8_untilWalked 78 = .ok (.pop, 1) := by decide +kernel
theorem dX8_untilWalked_79 : decode cX8_untilWalked 79 = .ok (.aload_n 0, 1) := by decide +kernel
theorem dX8_untilWalked_80 : decode cX8_untilWalked 80 = .ok (.getfield 7, 3) := by decide +kernel
theorem dX8_untilWalked_83 : decode cX8_untilWalked 83 = .ok (.sipush 188, 3) := by decide +kernel
theorem dX8_untilWalked_86 : decode cX8_untilWalked 86 = .ok (.iaload, 1) := by decide +kernel
theorem dX8_untilWalked_87 : decode cX8_untilWalked 87 = .ok (.iconst 1, 1) := by decide +kernel
theorem dX8_untilWalked_88 : decode cX8_untilWalked 88 = .ok (.if_icmp .ne 19, 3) := by decide +kernel
theorem dX8_untilWalked_91 : decode cX8_untilWalked 91 = .ok (.aload_n 0, 1) := by decide +kernel
theorem dX8_untilWalked_92 : decode cX8_untilWalked 92 = .ok (.getfield 7, 3) := by decide +kernel
theorem dX8_untilWalked_95 : decode cX8_untilWalked 95 = .ok (.iload_n 2, 1) := by decide +kernel
theorem dX8_untilWalked_96 : decode cX8_untilWalked 96 = .ok (.iaload, 1) := by decide +kernel
theorem dX8_untilWalked_97 : decode cX8_untilWalked 97 = .ok (.aload_n 0, 1) := by decide +kernel
theorem dX8_untilWalked_98 : decode cX8_untilWalked 98 = .ok (.getfield 13, 3) := by decide +kernel
theorem dX8_untilWalked_101 : decode cX8_untilWalked 101 = .ok (.iload_n 2, 1) := by decide +kernel
theorem dX8_untilWalked_102 : decode cX8_untilWalked 102 = .ok (.iaload, 1) := by decide +kernel
theorem dX8_untilWalked_103 : decode cX8_untilWalked 103 = .ok (.isub, 1) := by decide +kernel
theorem dX8_untilWalked_104 : decode cX8_untilWalked 104 = .ok (.goto 5, 3) := by decide +kernel
theorem dX8_untilWalked_107 : decode cX8_untilWalked 107 = .ok (.bipush (-6), 2) := by decide +kernel
theorem dX8_untilWalked_109 : decode cX8_untilWalked 109 = .ok (.istore_n 3, 1) := by decide +kernel
theorem dX8_untilWalked_110 : decode cX8_untilWalked 110 = .ok (.aload_n 0, 1) := by decide +kernel
theorem dX8_untilWalked_111 : decode cX8_untilWalked 111 = .ok (.getfield 13, 3) := by decide +kernel
theorem dX8_untilWalked_114 : decode cX8_untilWalked 114 = .ok (.iconst 0, 1) := by decide +kernel
theorem dX8_untilWalked_115 : decode cX8_untilWalked 115 = .ok (.aload_n 0, 1) := by decide +kernel
theorem dX8_untilWalked_116 : decode cX8_untilWalked 116 = .ok (.getfield 7, 3) := by decide +kernel
theorem dX8_untilWalked_119 : decode cX8_untilWalked 119 = .ok (.iconst 0, 1) := by decide +kernel
theorem dX8_untilWalked_120 : decode cX8_untilWalked 120 = .ok (.invokestatic 46, 3) := by decide +kernel
theorem dX8_untilWalked_123 : decode cX8_untilWalked 123 = .ok (.iload_n 3, 1) := by decide +kernel
theorem dX8_untilWalked_124 : decode cX8_untilWalked 124 = .ok (.ireturn, 1) := by decide +kernel
theorem dX8_together_0 : decode cX8_together 0 = .ok (.aload_n 0, 1) := by decide +kernel
theorem dX8_together_1 : decode cX8_together 1 = .ok (.invokevirtual 84, 3) := by decide +kernel
theorem dX8_together_4 : decode cX8_together 4 = .ok (.ifCond .ne 6, 3) := by decide +kernel
theorem dX8_together_7 : decode cX8_together 7 = .ok (.bipush (-5), 2) := by decide +kernel
theorem dX8_together_9 : decode cX8_together 9 = .ok (.ireturn, 1) := by decide +kernel
theorem dX8_together_10 : decode cX8_together 10 = .ok (.aload_n 0, 1) := by decide +kernel
theorem dX8_together_11 : decode cX8_together 11 = .ok (.getfield 7, 3) := by decide +kernel
theorem dX8_together_14 : decode cX8_together 14 = .ok (.iconst 0, 1) := by decide +kernel
theorem dX8_together_15 : decode cX8_together 15 = .ok (.aload_n 0, 1) := by decide +kernel
theorem dX8_together_16 : decode cX8_together 16 = .ok (.getfield 13, 3) := by decide +kernel
theorem dX8_together_19 : decode cX8_together 19 = .ok (.iconst 0, 1) := by decide +kernel
theorem dX8_together_20 : decode cX8_together 20 = .ok (.invokestatic 46, 3) := by decide +kernel
theorem dX8_together_23 : decode cX8_together 23 = .ok (.iconst 0, 1) := by decide +kernel
theorem dX8_together_24 : decode cX8_together 24 = .ok (.istore_n 1, 1) := by decide +kernel
theorem dX8_together_25 : decode cX8_together 25 = .ok (.bipush (-6), 2) := by decide +kernel
theorem dX8_together_27 : decode cX8_together 27 = .ok (.istore_n 2, 1) := by decide +kernel
theorem dX8_together_28 : decode cX8_together 28 = .ok (.iload_n 1, 1) := by decide +kernel
theorem dX8_together_29 : decode cX8_together 29 = .ok (.sipush 5000, 3) := by decide +kernel
theorem dX8_together_32 : decode cX8_together 32 = .ok (.if_icmp .ge 51, 3) := by decide +kernel
theorem dX8_together_35 : decode cX8_together 35 = .ok (.aload_n 0, 1) := by decide +kernel
theorem dX8_together_36 : decode cX8_together 36 = .ok (.getfield 7, 3) := by decide +kernel
theorem dX8_together_39 : decode cX8_together 39 = .ok (.sipush 188, 3) := by decide +kernel
theorem dX8_together_42 : decode cX8_together 42 = .ok (.iaload, 1) := by decide +kernel
theorem dX8_together_43 : decode cX8_together 43 = .ok (.ifCond .ne 40, 3) := by decide +kernel
theorem dX8_together_46 : decode cX8_together 46 = .ok (.iload_n 2, 1) := by decide +kernel
theorem dX8_together_47 : decode cX8_together 47 = .ok (.bipush (-6), 2) := by decide +kernel
theorem dX8_together_49 : decode cX8_together 49 = .ok (.if_icmp .ne 34, 3) := by decide +kernel
theorem dX8_together_52 : decode cX8_together 52 = .ok (.aload_n 0, 1) := by decide +kernel
theorem dX8_together_53 : decode cX8_together 53 = .ok (.invokevirtual 81, 3) := by decide +kernel
theorem dX8_together_56 : decode cX8_together 56 = .ok (.iinc 1 1, 3) := by decide +kernel
theorem dX8_together_59 : decode cX8_together 59 = .ok (.aload_n 0, 1) := by decide +kernel
theorem dX8_together_60 : decode cX8_together 60 = .ok (.getfield 68, 3) := by decide +kernel
theorem dX8_together_63 : decode cX8_together 63 = .ok (.ifCond .eq 14, 3) := by decide +kernel
theorem dX8_together_66 : decode cX8_together 66 = .ok (.aload_n 0, 1) := by decide +kernel
theorem dX8_together_67 : decode cX8_together 67 = .ok (.getfield 57, 3) := by decide +kernel
theorem dX8_together_70 : decode cX8_together 70 = .ok (.ifCond .eq 7, 3) := by decide +kernel
theorem dX8_together_73 : decode cX8_together 73 = .ok (.iload_n 1, 1) := by decide +kernel
theorem dX8_together_74 : decode cX8_together 74 = .ok (.goto 5, 3) := by decide +kernel
theorem dX8_together_77 : decode cX8_together 77 = .ok (.bipush (-6), 2) := by decide +kernel
theorem dX8_together_79 : decode cX8_together 79 = .ok (.istore_n 2, 1) := by decide +kernel
theorem dX8_together_80 : decode cX8_together 80 = .ok (.goto (-52), 3) := by decide +kernel
theorem dX8_together_83 : decode cX8_together 83 = .ok (.aload_n 0, 1) := by decide +kernel
theorem dX8_together_84 : decode cX8_together 84 = .ok (.getfield 13, 3) := by decide +kernel
theorem dX8_together_87 : decode cX8_together 87 = .ok (.iconst 0, 1) := by decide +kernel
theorem dX8_together_88 : decode cX8_together 88 = .ok (.aload_n 0, 1) := by decide +kernel
theorem dX8_together_89 : decode cX8_together 89 = .ok (.getfield 7, 3) := by decide +kernel
theorem dX8_together_92 : decode cX8_together 92 = .ok (.iconst 0, 1) := by decide +kernel
theorem dX8_together_93 : decode cX8_together 93 = .ok (.invokestatic 46, 3) := by decide +kernel
theorem dX8_together_96 : decode cX8_together 96 = .ok (.iload_n 2, 1) := by decide +kernel
theorem dX8_together_97 : decode cX8_together 97 = .ok (.ireturn, 1) := by decide +kernel
theorem dX8_meets_0 : decode cX8_meets 0 = .ok (.aload_n 0, 1) := by decide +kernel
theorem dX8_meets_1 : decode cX8_meets 1 = .ok (.iload_n 1, 1) := by decide +kernel
theorem dX8_meets_2 : decode cX8_meets 2 = .ok (.invokevirtual 95, 3) := by decide +kernel
theorem dX8_meets_5 : decode cX8_meets 5 = .ok (.ifCond .ne 5, 3) := by decide +kernel
theorem dX8_meets_8 : decode cX8_meets 8 = .ok (.iconst (-1), 1) := by decide +kernel
theorem dX8_meets_9 : decode cX8_meets 9 = .ok (.ireturn, 1) := by decide +kernel
theorem dX8_meets_10 : decode cX8_meets 10 = .ok (.iload_n 2, 1) := by decide +kernel
theorem dX8_meets_11 : decode cX8_meets 11 = .ok (.iconst 0, 1) := by decide +kernel
theorem dX8_meets_12 : decode cX8_meets 12 = .ok (.iconst 1, 1) := by decide +kernel
theorem dX8_meets_13 : decode cX8_meets 13 = .ok (.invokestatic 38, 3) := by decide +kernel
theorem dX8_meets_16 : decode cX8_meets 16 = .ok (.ifCond .ne 6, 3) := by decide +kernel
theorem dX8_meets_19 : decode cX8_meets 19 = .ok (.bipush (-2), 2) := by decide +kernel
theorem dX8_meets_21 : decode cX8_meets 21 = .ok (.ireturn, 1) := by decide +kernel
theorem dX8_meets_22 : decode cX8_meets 22 = .ok (.aload_n 0, 1) := by decide +kernel
theorem dX8_meets_23 : decode cX8_meets 23 = .ok (.getfield 7, 3) := by decide +kernel
theorem dX8_meets_26 : decode cX8_meets 26 = .ok (.bipush 6, 2) := by decide +kernel
theorem dX8_meets_28 : decode cX8_meets 28 = .ok (.iaload, 1) := by decide +kernel
theorem dX8_meets_29 : decode cX8_meets 29 = .ok (.ifCond .ne 6, 3) := by decide +kernel
theorem dX8_meets_32 : decode cX8_meets 32 = .ok (.bipush (-5), 2) := by decide +kernel
theorem dX8_meets_34 : decode cX8_meets 34 = .ok (.ireturn, 1) := by decide +kernel
theorem dX8_meets_35 : decode cX8_meets 35 = .ok (.iconst 1, 1) := by decide +kernel
theorem dX8_meets_36 : decode cX8_meets 36 = .ok (.istore_n 3, 1) := by decide +kernel
theorem dX8_meets_37 : decode cX8_meets 37 = .ok (.iload_n 3, 1) := by decide +kernel
theorem dX8_meets_38 : decode cX8_meets 38 = .ok (.aload_n 0, 1) := by decide +kernel
theorem dX8_meets_39 : decode cX8_meets 39 = .ok (.invokevirtual 135, 3) := by decide +kernel
theorem dX8_meets_42 : decode cX8_meets 42 = .ok (.imul, 1) := by decide +kernel
theorem dX8_meets_43 : decode cX8_meets 43 = .ok (.aload_n 0, 1) := by decide +kernel
theorem dX8_meets_44 : decode cX8_meets 44 = .ok (.iload_n 1, 1) := by decide +kernel
theorem dX8_meets_45 : decode cX8_meets 45 = .ok (.iconst 0, 1) := by decide +kernel
theorem dX8_meets_46 : decode cX8_meets 46 = .ok (.invokevirtual 53, 3) := by decide +kernel
theorem dX8_meets_49 : decode cX8_meets 49 = .ok (.irem, 1) := by decide +kernel
theorem dX8_meets_50 : decode cX8_meets 50 = .ok (.ifCond .eq 9, 3) := by decide +kernel
theorem dX8_meets_53 : decode cX8_meets 53 = .ok (.iinc 3 1, 3) := by decide +kernel
theorem dX8_meets_56 : decode cX8_meets 56 = .ok (.goto (-19), 3) := by decide +kernel
theorem dX8_meets_59 : decode cX8_meets 59 = .ok (.iload_n 3, 1) := by decide +kernel
theorem dX8_meets_60 : decode cX8_meets 60 = .ok (.ireturn, 1) := by decide +kernel
theorem dX8_isWalkedAnew_0 : decode cX8_isWalkedAnew 0 = .ok (.aload_n 0, 1) := by decide +kernel
theorem dX8_isWalkedAnew_1 : decode cX8_isWalkedAnew 1 = .ok (.invokevirtual 35, 3) := by decide +kernel
theorem dX8_isWalkedAnew_4 : decode cX8_isWalkedAnew 4 = .ok (.aload_n 0, 1) := by decide +kernel
theorem dX8_isWalkedAnew_5 : decode cX8_isWalkedAnew 5 = .ok (.sipush 5000, 3) := by decide +kernel
theorem dX8_isWalkedAnew_8 : decode cX8_isWalkedAnew 8 = .ok (.invokevirtual 88, 3) := by decide +kernel
theorem dX8_isWalkedAnew_11 : decode cX8_isWalkedAnew 11 = .ok (.pop, 1) := by decide +kernel
theorem dX8_isWalkedAnew_12 : decode cX8_isWalkedAnew 12 = .ok (.aload_n 0, 1) := by decide +kernel
theorem dX8_isWalkedAnew_13 : decode cX8_isWalkedAnew 13 = .ok (.getfield 7, 3) := by decide +kernel
theorem dX8_isWalkedAnew_16 : decode cX8_isWalkedAnew 16 = .ok (.sipush 188, 3) := by decide +kernel
theorem dX8_isWalkedAnew_19 : decode cX8_isWalkedAnew 19 = .ok (.iaload, 1) := by decide +kernel
theorem dX8_isWalkedAnew_20 : decode cX8_isWalkedAnew 20 = .ok (.iconst 1, 1) := by decide +kernel
theorem dX8_isWalkedAnew_21 : decode cX8_isWalkedAnew 21 = .ok (.if_icmp .ne 7, 3) := by decide +kernel
theorem dX8_isWalkedAnew_24 : decode cX8_isWalkedAnew 24 = .ok (.iconst 1, 1) := by decide +kernel
theorem dX8_isWalkedAnew_25 : decode cX8_isWalkedAnew 25 = .ok (.goto 4, 3) := by decide +kernel
theorem dX8_isWalkedAnew_28 : decode cX8_isWalkedAnew 28 = .ok (.iconst 0, 1) := by decide +kernel
theorem dX8_isWalkedAnew_29 : decode cX8_isWalkedAnew 29 = .ok (.ireturn, 1) := by decide +kernel
theorem dX8_leastBreath_0 : decode cX8_leastBreath 0 = .ok (.aload_n 0, 1) := by decide +kernel
theorem dX8_leastBreath_1 : decode cX8_leastBreath 1 = .ok (.invokevirtual 84, 3) := by decide +kernel
theorem dX8_leastBreath_4 : decode cX8_leastBreath 4 = .ok (.ifCond .ne 6, 3) := by decide +kernel
theorem dX8_leastBreath_7 : decode cX8_leastBreath 7 = .ok (.bipush (-5), 2) := by decide +kernel
theorem dX8_leastBreath_9 : decode cX8_leastBreath 9 = .ok (.ireturn, 1) := by decide +kernel
theorem dX8_leastBreath_10 : decode cX8_leastBreath 10 = .ok (.aload_n 0, 1) := by decide +kernel
theorem dX8_leastBreath_11 : decode cX8_leastBreath 11 = .ok (.getfield 7, 3) := by decide +kernel
theorem dX8_leastBreath_14 : decode cX8_leastBreath 14 = .ok (.iconst 0, 1) := by decide +kernel
theorem dX8_leastBreath_15 : decode cX8_leastBreath 15 = .ok (.aload_n 0, 1) := by decide +kernel
theorem dX8_leastBreath_16 : decode cX8_leastBreath 16 = .ok (.getfield 13, 3) := by decide +kernel
theorem dX8_leastBreath_19 : decode cX8_leastBreath 19 = .ok (.iconst 0, 1) := by decide +kernel
theorem dX8_leastBreath_20 : decode cX8_leastBreath 20 = .ok (.invokestatic 46, 3) := by decide +kernel
theorem dX8_leastBreath_23 : decode cX8_leastBreath 23 = .ok (.bipush (-6), 2) := by decide +kernel
theorem dX8_leastBreath_25 : decode cX8_leastBreath 25 = .ok (.istore_n 1, 1) := by decide +kernel
theorem dX8_leastBreath_26 : decode cX8_leastBreath 26 = .ok (.bipush 60, 2) := by decide +kernel
theorem dX8_leastBreath_28 : decode cX8_leastBreath 28 = .ok (.istore_n 2, 1) := by decide +kernel
theorem dX8_leastBreath_29 : decode cX8_leastBreath 29 = .ok (.iload_n 2, 1) := by decide +kernel
theorem dX8_leastBreath_30 : decode cX8_leastBreath 30 = .ok (.iconst 5, 1) := by decide +kernel
theorem dX8_leastBreath_31 : decode cX8_leastBreath 31 = .ok (.if_icmp .lt 40, 3) := by decide +kernel
theorem dX8_leastBreath_34 : decode cX8_leastBreath 34 = .ok (.aload_n 0, 1) := by decide +kernel
theorem dX8_leastBreath_35 : decode cX8_leastBreath 35 = .ok (.getfield 7, 3) := by decide +kernel
theorem dX8_leastBreath_38 : decode cX8_leastBreath 38 = .ok (.iconst 4, 1) := by decide +kernel
theorem dX8_leastBreath_39 : decode cX8_leastBreath 39 = .ok (.iload_n 2, 1) := by decide +kernel
theorem dX8_leastBreath_40 : decode cX8_leastBreath 40 = .ok (.iastore, 1) := by decide +kernel
theorem dX8_leastBreath_41 : decode cX8_leastBreath 41 = .ok (.aload_n 0, 1) := by decide +kernel
theorem dX8_leastBreath_42 : decode cX8_leastBreath 42 = .ok (.invokevirtual 144, 3) := by decide +kernel
theorem dX8_leastBreath_45 : decode cX8_leastBreath 45 = .ok (.ifCond .eq 18, 3) := by decide +kernel
theorem dX8_leastBreath_48 : decode cX8_leastBreath 48 = .ok (.aload_n 0, 1) := by decide +kernel
theorem dX8_leastBreath_49 : decode cX8_leastBreath 49 = .ok (.getfield 7, 3) := by decide +kernel
theorem dX8_leastBreath_52 : decode cX8_leastBreath 52 = .ok (.sipush 185, 3) := by decide +kernel
theorem dX8_leastBreath_55 : decode cX8_leastBreath 55 = .ok (.iaload, 1) := by decide +kernel
theorem dX8_leastBreath_56 : decode cX8_leastBreath 56 = .ok (.ifCond .ne 7, 3) := by decide +kernel
theorem dX8_leastBreath_59 : decode cX8_leastBreath 59 = .ok (.iload_n 2, 1) := by decide +kernel
theorem dX8_leastBreath_60 : decode cX8_leastBreath 60 = .ok (.goto 4, 3) := by decide +kernel
theorem dX8_leastBreath_63 : decode cX8_leastBreath 63 = .ok (.iload_n 1, 1) := by decide +kernel
theorem dX8_leastBreath_64 : decode cX8_leastBreath 64 = .ok (.istore_n 1, 1) := by decide +kernel
theorem dX8_leastBreath_65 : decode cX8_leastBreath 65 = .ok (.iinc 2 (-1), 3) := by decide +kernel
theorem dX8_leastBreath_68 : decode cX8_leastBreath 68 = .ok (.goto (-39), 3) := by decide +kernel
theorem dX8_leastBreath_71 : decode cX8_leastBreath 71 = .ok (.aload_n 0, 1) := by decide +kernel
theorem dX8_leastBreath_72 : decode cX8_leastBreath 72 = .ok (.getfield 13, 3) := by decide +kernel
theorem dX8_leastBreath_75 : decode cX8_leastBreath 75 = .ok (.iconst 0, 1) := by decide +kernel
theorem dX8_leastBreath_76 : decode cX8_leastBreath 76 = .ok (.aload_n 0, 1) := by decide +kernel
theorem dX8_leastBreath_77 : decode cX8_leastBreath 77 = .ok (.getfield 7, 3) := by decide +kernel
theorem dX8_leastBreath_80 : decode cX8_leastBreath 80 = .ok (.iconst 0, 1) := by decide +kernel
theorem dX8_leastBreath_81 : decode cX8_leastBreath 81 = .ok (.invokestatic 46, 3) := by decide +kernel
theorem dX8_leastBreath_84 : decode cX8_leastBreath 84 = .ok (.iload_n 1, 1) := by decide +kernel
theorem dX8_leastBreath_85 : decode cX8_leastBreath 85 = .ok (.ireturn, 1) := by decide +kernel
theorem dX8_bestPause_0 : decode cX8_bestPause 0 = .ok (.aload_n 0, 1) := by decide +kernel
theorem dX8_bestPause_1 : decode cX8_bestPause 1 = .ok (.invokevirtual 84, 3) := by decide +kernel
theorem dX8_bestPause_4 : decode cX8_bestPause 4 = .ok (.ifCond .ne 6, 3) := by decide +kernel
theorem dX8_bestPause_7 : decode cX8_bestPause 7 = .ok (.bipush (-5), 2) := by decide +kernel
theorem dX8_bestPause_9 : decode cX8_bestPause 9 = .ok (.ireturn, 1) := by decide +kernel
theorem dX8_bestPause_10 : decode cX8_bestPause 10 = .ok (.aload_n 0, 1) := by decide +kernel
theorem dX8_bestPause_11 : decode cX8_bestPause 11 = .ok (.getfield 7, 3) := by decide +kernel
theorem dX8_bestPause_14 : decode cX8_bestPause 14 = .ok (.iconst 0, 1) := by decide +kernel
theorem dX8_bestPause_15 : decode cX8_bestPause 15 = .ok (.aload_n 0, 1) := by decide +kernel
theorem dX8_bestPause_16 : decode cX8_bestPause 16 = .ok (.getfield 13, 3) := by decide +kernel
theorem dX8_bestPause_19 : decode cX8_bestPause 19 = .ok (.iconst 0, 1) := by decide +kernel
theorem dX8_bestPause_20 : decode cX8_bestPause 20 = .ok (.invokestatic 46, 3) := by decide +kernel
theorem dX8_bestPause_23 : decode cX8_bestPause 23 = .ok (.bipush (-6), 2) := by decide +kernel
theorem dX8_bestPause_25 : decode cX8_bestPause 25 = .ok (.istore_n 1, 1) := by decide +kernel
theorem dX8_bestPause_26 : decode cX8_bestPause 26 = .ok (.sipush 5001, 3) := by decide +kernel
theorem dX8_bestPause_29 : decode cX8_bestPause 29 = .ok (.istore_n 2, 1) := by decide +kernel
theorem dX8_bestPause_30 : decode cX8_bestPause 30 = .ok (.iconst 0, 1) := by decide +kernel
theorem dX8_bestPause_31 : decode cX8_bestPause 31 = .ok (.istore_n 3, 1) := by decide +kernel
theorem dX8_bestPause_32 : decode cX8_bestPause 32 = .ok (.iload_n 3, 1) := by decide +kernel
theorem dX8_bestPause_33 : decode cX8_bestPause 33 = .ok (.bipush 10, 2) := by decide +kernel
theorem dX8_bestPause_35 : decode cX8_bestPause 35 = .ok (.if_icmp .ge 71, 3) := by decide +kernel
theorem dX8_bestPause_38 : decode cX8_bestPause 38 = .ok (.aload_n 0, 1) := by decide +kernel
theorem dX8_bestPause_39 : decode cX8_bestPause 39 = .ok (.getfield 7, 3) := by decide +kernel
theorem dX8_bestPause_42 : decode cX8_bestPause 42 = .ok (.iconst 1, 1) := by decide +kernel
theorem dX8_bestPause_43 : decode cX8_bestPause 43 = .ok (.iload_n 3, 1) := by decide +kernel
theorem dX8_bestPause_44 : decode cX8_bestPause 44 = .ok (.iastore, 1) := by decide +kernel
theorem dX8_bestPause_45 : decode cX8_bestPause 45 = .ok (.aload_n 0, 1) := by decide +kernel
theorem dX8_bestPause_46 : decode cX8_bestPause 46 = .ok (.invokevirtual 144, 3) := by decide +kernel
theorem dX8_bestPause_49 : decode cX8_bestPause 49 = .ok (.ifCond .eq 19, 3) := by decide +kernel
theorem dX8_bestPause_52 : decode cX8_bestPause 52 = .ok (.aload_n 0, 1) := by decide +kernel
theorem dX8_bestPause_53 : decode cX8_bestPause 53 = .ok (.getfield 7, 3) := by decide +kernel
theorem dX8_bestPause_56 : decode cX8_bestPause 56 = .ok (.sipush 174, 3) := by decide +kernel
theorem dX8_bestPause_59 : decode cX8_bestPause 59 = .ok (.iaload, 1) := by decide +kernel
theorem dX8_bestPause_60 : decode cX8_bestPause 60 = .ok (.iload_n 2, 1) := by decide +kernel
theorem dX8_bestPause_61 : decode cX8_bestPause 61 = .ok (.if_icmp .ge 7, 3) := by decide +kernel
theorem dX8_bestPause_64 : decode cX8_bestPause 64 = .ok (.iconst 1, 1) := by decide +kernel
theorem dX8_bestPause_65 : decode cX8_bestPause 65 = .ok (.goto 4, 3) := by decide +kernel
theorem dX8_bestPause_68 : decode cX8_bestPause 68 = .ok (.iconst 0, 1) := by decide +kernel
theorem dX8_bestPause_69 : decode cX8_bestPause 69 = .ok (.istore 4, 2) := by decide +kernel
theorem dX8_bestPause_71 : decode cX8_bestPause 71 = .ok (.iload 4, 2) := by decide +kernel
theorem dX8_bestPause_73 : decode cX8_bestPause 73 = .ok (.ifCond .eq 7, 3) := by decide +kernel
theorem dX8_bestPause_76 : decode cX8_bestPause 76 = .ok (.iload_n 3, 1) := by decide +kernel
theorem dX8_bestPause_77 : decode cX8_bestPause 77 = .ok (.goto 4, 3) := by decide +kernel
theorem dX8_bestPause_80 : decode cX8_bestPause 80 = .ok (.iload_n 1, 1) := by decide +kernel
theorem dX8_bestPause_81 : decode cX8_bestPause 81 = .ok (.istore_n 1, 1) := by decide +kernel
theorem dX8_bestPause_82 : decode cX8_bestPause 82 = .ok (.iload 4, 2) := by decide +kernel
theorem dX8_bestPause_84 : decode cX8_bestPause 84 = .ok (.ifCond .eq 14, 3) := by decide +kernel
theorem dX8_bestPause_87 : decode cX8_bestPause 87 = .ok (.aload_n 0, 1) := by decide +kernel
theorem dX8_bestPause_88 : decode cX8_bestPause 88 = .ok (.getfield 7, 3) := by decide +kernel
theorem dX8_bestPause_91 : decode cX8_bestPause 91 = .ok (.sipush 174, 3) := by decide +kernel
theorem dX8_bestPause_94 : decode cX8_bestPause 94 = .ok (.iaload, 1) := by decide +kernel
theorem dX8_bestPause_95 : decode cX8_bestPause 95 = .ok (.goto 4, 3) := by decide +kernel
theorem dX8_bestPause_98 : decode cX8_bestPause 98 = .ok (.iload_n 2, 1) := by decide +kernel
theorem dX8_bestPause_99 : decode cX8_bestPause 99 = .ok (.istore_n 2, 1) := by decide +kernel
theorem dX8_bestPause_100 : decode cX8_bestPause 100 = .ok (.iinc 3 1, 3) := by decide +kernel
theorem dX8_bestPause_103 : decode cX8_bestPause 103 = .ok (.goto (-71), 3) := by decide +kernel
theorem dX8_bestPause_106 : decode cX8_bestPause 106 = .ok (.aload_n 0, 1) := by decide +kernel
theorem dX8_bestPause_107 : decode cX8_bestPause 107 = .ok (.getfield 13, 3) := by decide +kernel
theorem dX8_bestPause_110 : decode cX8_bestPause 110 = .ok (.iconst 0, 1) := by decide +kernel
theorem dX8_bestPause_111 : decode cX8_bestPause 111 = .ok (.aload_n 0, 1) := by decide +kernel
theorem dX8_bestPause_112 : decode cX8_bestPause 112 = .ok (.getfield 7, 3) := by decide +kernel
theorem dX8_bestPause_115 : decode cX8_bestPause 115 = .ok (.iconst 0, 1) := by decide +kernel
theorem dX8_bestPause_116 : decode cX8_bestPause 116 = .ok (.invokestatic 46, 3) := by decide +kernel
theorem dX8_bestPause_119 : decode cX8_bestPause 119 = .ok (.iload_n 1, 1) := by decide +kernel
theorem dX8_bestPause_120 : decode cX8_bestPause 120 = .ok (.ireturn, 1) := by decide +kernel
theorem dJ9_floorMod_7cf53_0 : decode cJ9_floorMod_7cf53 0 = .ok (.iload_n 0, 1) := by decide +kernel
theorem dJ9_floorMod_7cf53_1 : decode cJ9_floorMod_7cf53 1 = .ok (.iload_n 1, 1) := by decide +kernel
theorem dJ9_floorMod_7cf53_2 : decode cJ9_floorMod_7cf53 2 = .ok (.irem, 1) := by decide +kernel
theorem dJ9_floorMod_7cf53_3 : decode cJ9_floorMod_7cf53 3 = .ok (.istore_n 2, 1) := by decide +kernel
theorem dJ9_floorMod_7cf53_4 : decode cJ9_floorMod_7cf53 4 = .ok (.iload_n 0, 1) := by decide +kernel
theorem dJ9_floorMod_7cf53_5 : decode cJ9_floorMod_7cf53 5 = .ok (.iload_n 1, 1) := by decide +kernel
theorem dJ9_floorMod_7cf53_6 : decode cJ9_floorMod_7cf53 6 = .ok (.ixor, 1) := by decide +kernel
theorem dJ9_floorMod_7cf53_7 : decode cJ9_floorMod_7cf53 7 = .ok (.ifCond .ge 11, 3) := by decide +kernel
theorem dJ9_floorMod_7cf53_10 : decode cJ9_floorMod_7cf53 10 = .ok (.iload_n 2, 1) := by decide +kernel
theorem dJ9_floorMod_7cf53_11 : decode cJ9_floorMod_7cf53 11 = .ok (.ifCond .eq 7, 3) := by decide +kernel
theorem dJ9_floorMod_7cf53_14 : decode cJ9_floorMod_7cf53 14 = .ok (.iload_n 2, 1) := by decide +kernel
theorem dJ9_floorMod_7cf53_15 : decode cJ9_floorMod_7cf53 15 = .ok (.iload_n 1, 1) := by decide +kernel
theorem dJ9_floorMod_7cf53_16 : decode cJ9_floorMod_7cf53 16 = .ok (.iadd, 1) := by decide +kernel
theorem dJ9_floorMod_7cf53_17 : decode cJ9_floorMod_7cf53 17 = .ok (.ireturn, 1) := by decide +kernel
theorem dJ9_floorMod_7cf53_18 : decode cJ9_floorMod_7cf53 18 = .ok (.iload_n 2, 1) := by decide +kernel
theorem dJ9_floorMod_7cf53_19 : decode cJ9_floorMod_7cf53 19 = .ok (.ireturn, 1) := by decide +kernel
theorem dJ9_max_7cf53_0 : decode cJ9_max_7cf53 0 = .ok (.iload_n 0, 1) := by decide +kernel
theorem dJ9_max_7cf53_1 : decode cJ9_max_7cf53 1 = .ok (.iload_n 1, 1) := by decide +kernel
theorem dJ9_max_7cf53_2 : decode cJ9_max_7cf53 2 = .ok (.if_icmp .lt 7, 3) := by decide +kernel
theorem dJ9_max_7cf53_5 : decode cJ9_max_7cf53 5 = .ok (.iload_n 0, 1) := by decide +kernel
theorem dJ9_max_7cf53_6 : decode cJ9_max_7cf53 6 = .ok (.goto 4, 3) := by decide +kernel
theorem dJ9_max_7cf53_9 : decode cJ9_max_7cf53 9 = .ok (.iload_n 1, 1) := by decide +kernel
theorem dJ9_max_7cf53_10 : decode cJ9_max_7cf53 10 = .ok (.ireturn, 1) := by decide +kernel
theorem dJ9_min_7cf53_0 : decode cJ9_min_7cf53 0 = .ok (.iload_n 0, 1) := by decide +kernel
theorem dJ9_min_7cf53_1 : decode cJ9_min_7cf53 1 = .ok (.iload_n 1, 1) := by decide +kernel
theorem dJ9_min_7cf53_2 : decode cJ9_min_7cf53 2 = .ok (.if_icmp .gt 7, 3) := by decide +kernel
theorem dJ9_min_7cf53_5 : decode cJ9_min_7cf53 5 = .ok (.iload_n 0, 1) := by decide +kernel
theorem dJ9_min_7cf53_6 : decode cJ9_min_7cf53 6 = .ok (.goto 4, 3) := by decide +kernel
theorem dJ9_min_7cf53_9 : decode cJ9_min_7cf53 9 = .ok (.iload_n 1, 1) := by decide +kernel
theorem dJ9_min_7cf53_10 : decode cJ9_min_7cf53 10 = .ok (.ireturn, 1) := by decide +kernel
end
section
theorem dL_law_0 : decode cL_law 0 = .ok (.new 7, 3) := by decide +kernel
theorem dL_law_3 : decode cL_law 3 = .ok (.dup, 1) := by decide +kernel
theorem dL_law_4 : decode cL_law 4 = .ok (.invokespecial 9, 3) := by decide +kernel
theorem dL_law_7 : decode cL_law 7 = .ok (.astore_n 1, 1) := by decide +kernel
theorem dL_law_8 : decode cL_law 8 = .ok (.new 10, 3) := by decide +kernel
theorem dL_law_11 : decode cL_law 11 = .ok (.dup, 1) := by decide +kernel
theorem dL_law_12 : decode cL_law 12 = .ok (.invokespecial 12, 3) := by decide +kernel
theorem dL_law_15 : decode cL_law 15 = .ok (.astore_n 2, 1) := by decide +kernel
theorem dL_law_16 : decode cL_law 16 = .ok (.iconst 0, 1) := by decide +kernel
theorem dL_law_17 : decode cL_law 17 = .ok (.istore_n 3, 1) := by decide +kernel
theorem dL_law_18 : decode cL_law 18 = .ok (.iload_n 3, 1) := by decide +kernel
theorem dL_law_19 : decode cL_law 19 = .ok (.aload_n 0, 1) := by decide +kernel
theorem dL_law_20 : decode cL_law 20 = .ok (.arraylength, 1) := by decide +kernel
theorem dL_law_21 : decode cL_law 21 = .ok (.iconst 4, 1) := by decide +kernel
theorem dL_law_22 : decode cL_law 22 = .ok (.isub, 1) := by decide +kernel
theorem dL_law_23 : decode cL_law 23 = .ok (.if_icmp .gt 671, 3) := by decide +kernel
theorem dL_law_26 : decode cL_law 26 = .ok (.aload_n 0, 1) := by decide +kernel
theorem dL_law_27 : decode cL_law 27 = .ok (.iload_n 3, 1) := by decide +kernel
theorem dL_law_28 : decode cL_law 28 = .ok (.iaload, 1) := by decide +kernel
theorem dL_law_29 : decode cL_law 29 = .ok (.bipush 31, 2) := by decide +kernel
theorem dL_law_31 : decode cL_law 31 = .ok (.iand, 1) := by decide +kernel
theorem dL_law_32 : decode cL_law 32 = .ok (.tableswitch 656 0 21 #[104, 137, 150, 209, 232, 245, 268, 301, 344, 377, 400, 423, 446, 459, 492, 505, 518, 571, 584, 597, 610, 633], 104) := by decide +kernel
theorem dL_law_136 : decode cL_law 136 = .ok (.aload_n 1, 1) := by decide +kernel
theorem dL_law_137 : decode cL_law 137 = .ok (.aload_n 0, 1) := by decide +kernel
theorem dL_law_138 : decode cL_law 138 = .ok (.iload_n 3, 1) := by decide +kernel
theorem dL_law_139 : decode cL_law 139 = .ok (.iconst 1, 1) := by decide +kernel
theorem dL_law_140 : decode cL_law 140 = .ok (.iadd, 1) := by decide +kernel
theorem dL_law_141 : decode cL_law 141 = .ok (.iaload, 1) := by decide +kernel
theorem dL_law_142 : decode cL_law 142 = .ok (.aload_n 0, 1) := by decide +kernel
theorem dL_law_143 : decode cL_law 143 = .ok (.iload_n 3, 1) := by decide +kernel
theorem dL_law_144 : decode cL_law 144 = .ok (.iconst 2, 1) := by decide +kernel
theorem dL_law_145 : decode cL_law 145 = .ok (.iadd, 1) := by decide +kernel
theorem dL_law_146 : decode cL_law 146 = .ok (.iaload, 1) := by decide +kernel
theorem dL_law_147 : decode cL_law 147 = .ok (.invokevirtual 13, 3) := by decide +kernel
theorem dL_law_150 : decode cL_law 150 = .ok (.aload_n 2, 1) := by decide +kernel
theorem dL_law_151 : decode cL_law 151 = .ok (.aload_n 0, 1) := by decide +kernel
theorem dL_law_152 : decode cL_law 152 = .ok (.iload_n 3, 1) := by decide +kernel
theorem dL_law_153 : decode cL_law 153 = .ok (.iconst 1, 1) := by decide +kernel
theorem dL_law_154 : decode cL_law 154 = .ok (.iadd, 1) := by decide +kernel
theorem dL_law_155 : decode cL_law 155 = .ok (.iaload, 1) := by decide +kernel
theorem dL_law_156 : decode cL_law 156 = .ok (.aload_n 0, 1) := by decide +kernel
theorem dL_law_157 : decode cL_law 157 = .ok (.iload_n 3, 1) := by decide +kernel
theorem dL_law_158 : decode cL_law 158 = .ok (.iconst 2, 1) := by decide +kernel
theorem dL_law_159 : decode cL_law 159 = .ok (.iadd, 1) := by decide +kernel
theorem dL_law_160 : decode cL_law 160 = .ok (.iaload, 1) := by decide +kernel
theorem dL_law_161 : decode cL_law 161 = .ok (.invokevirtual 17, 3) := by decide +kernel
theorem dL_law_164 : decode cL_law 164 = .ok (.if_icmp .eq 524, 3) := by decide +kernel
theorem dL_law_167 : decode cL_law 167 = .ok (.iconst 0, 1) := by decide +kernel
theorem dL_law_168 : decode cL_law 168 = .ok (.ireturn, 1) := by decide +kernel
theorem dL_law_169 : decode cL_law 169 = .ok (.aload_n 1, 1) := by decide +kernel
theorem dL_law_170 : decode cL_law 170 = .ok (.invokevirtual 18, 3) := by decide +kernel
theorem dL_law_173 : decode cL_law 173 = .ok (.aload_n 2, 1) := by decide +kernel
theorem dL_law_174 : decode cL_law 174 = .ok (.invokevirtual 22, 3) := by decide +kernel
theorem dL_law_177 : decode cL_law 177 = .ok (.if_icmp .eq 511, 3) := by decide +kernel
theorem dL_law_180 : decode cL_law 180 = .ok (.iconst 0, 1) := by decide +kernel
theorem dL_law_181 : decode cL_law 181 = .ok (.ireturn, 1) := by decide +kernel
theorem dL_law_182 : decode cL_law 182 = .ok (.aload_n 1, 1) := by decide +kernel
theorem dL_law_183 : decode cL_law 183 = .ok (.aload_n 0, 1) := by decide +kernel
theorem dL_law_184 : decode cL_law 184 = .ok (.iload_n 3, 1) := by decide +kernel
theorem dL_law_185 : decode cL_law 185 = .ok (.iconst 1, 1) := by decide +kernel
theorem dL_law_186 : decode cL_law 186 = .ok (.iadd, 1) := by decide +kernel
theorem dL_law_187 : decode cL_law 187 = .ok (.iaload, 1) := by decide +kernel
theorem dL_law_188 : decode cL_law 188 = .ok (.aload_n 0, 1) := by decide +kernel
theorem dL_law_189 : decode cL_law 189 = .ok (.iload_n 3, 1) := by decide +kernel
theorem dL_law_190 : decode cL_law 190 = .ok (.iconst 2, 1) := by decide +kernel
theorem dL_law_191 : decode cL_law 191 = .ok (.iadd, 1) := by decide +kernel
theorem dL_law_192 : decode cL_law 192 = .ok (.iaload, 1) := by decide +kernel
theorem dL_law_193 : decode cL_law 193 = .ok (.aload_n 0, 1) := by decide +kernel
theorem dL_law_194 : decode cL_law 194 = .ok (.iload_n 3, 1) := by decide +kernel
theorem dL_law_195 : decode cL_law 195 = .ok (.iconst 3, 1) := by decide +kernel
theorem dL_law_196 : decode cL_law 196 = .ok (.iadd, 1) := by decide +kernel
theorem dL_law_197 : decode cL_law 197 = .ok (.iaload, 1) := by decide +kernel
theorem dL_law_198 : decode cL_law 198 = .ok (.ifCond .eq 7, 3) := by decide +kernel
theorem dL_law_201 : decode cL_law 201 = .ok (.iconst 1, 1) := by decide +kernel
theorem dL_law_202 : decode cL_law 202 = .ok (.goto 4, 3) := by decide +kernel
theorem dL_law_205 : decode cL_law 205 = .ok (.iconst 0, 1) := by decide +kernel
theorem dL_law_206 : decode cL_law 206 = .ok (.invokevirtual 23, 3) := by decide +kernel
theorem dL_law_209 : decode cL_law 209 = .ok (.aload_n 2, 1) := by decide +kernel
theorem dL_law_210 : decode cL_law 210 = .ok (.aload_n 0, 1) := by decide +kernel
theorem dL_law_211 : decode cL_law 211 = .ok (.iload_n 3, 1) := by decide +kernel
theorem dL_law_212 : decode cL_law 212 = .ok (.iconst 1, 1) := by decide +kernel
theorem dL_law_213 : decode cL_law 213 = .ok (.iadd, 1) := by decide +kernel
theorem dL_law_214 : decode cL_law 214 = .ok (.iaload, 1) := by decide +kernel
theorem dL_law_215 : decode cL_law 215 = .ok (.aload_n 0, 1) := by decide +kernel
theorem dL_law_216 : decode cL_law 216 = .ok (.iload_n 3, 1) := by decide +kernel
theorem dL_law_217 : decode cL_law 217 = .ok (.iconst 2, 1) := by decide +kernel
theorem dL_law_218 : decode cL_law 218 = .ok (.iadd, 1) := by decide +kernel
theorem dL_law_219 : decode cL_law 219 = .ok (.iaload, 1) := by decide +kernel
theorem dL_law_220 : decode cL_law 220 = .ok (.aload_n 0, 1) := by decide +kernel
theorem dL_law_221 : decode cL_law 221 = .ok (.iload_n 3, 1) := by decide +kernel
theorem dL_law_222 : decode cL_law 222 = .ok (.iconst 3, 1) := by decide +kernel
theorem dL_law_223 : decode cL_law 223 = .ok (.iadd, 1) := by decide +kernel
theorem dL_law_224 : decode cL_law 224 = .ok (.iaload, 1) := by decide +kernel
theorem dL_law_225 : decode cL_law 225 = .ok (.ifCond .eq 7, 3) := by decide +kernel
theorem dL_law_228 : decode cL_law 228 = .ok (.iconst 1, 1) := by decide +kernel
theorem dL_law_229 : decode cL_law 229 = .ok (.goto 4, 3) := by decide +kernel
theorem dL_law_232 : decode cL_law 232 = .ok (.iconst 0, 1) := by decide +kernel
theorem dL_law_233 : decode cL_law 233 = .ok (.invokevirtual 27, 3) := by decide +kernel
theorem dL_law_236 : decode cL_law 236 = .ok (.if_icmp .eq 452, 3) := by decide +kernel
theorem dL_law_239 : decode cL_law 239 = .ok (.iconst 0, 1) := by decide +kernel
theorem dL_law_240 : decode cL_law 240 = .ok (.ireturn, 1) := by decide +kernel
theorem dL_law_241 : decode cL_law 241 = .ok (.aload_n 1, 1) := by decide +kernel
theorem dL_law_242 : decode cL_law 242 = .ok (.aload_n 0, 1) := by decide +kernel
theorem dL_law_243 : decode cL_law 243 = .ok (.iload_n 3, 1) := by decide +kernel
theorem dL_law_244 : decode cL_law 244 = .ok (.iconst 1, 1) := by decide +kernel
theorem dL_law_245 : decode cL_law 245 = .ok (.iadd, 1) := by decide +kernel
theorem dL_law_246 : decode cL_law 246 = .ok (.iaload, 1) := by decide +kernel
theorem dL_law_247 : decode cL_law 247 = .ok (.invokevirtual 28, 3) := by decide +kernel
theorem dL_law_250 : decode cL_law 250 = .ok (.aload_n 2, 1) := by decide +kernel
theorem dL_law_251 : decode cL_law 251 = .ok (.aload_n 0, 1) := by decide +kernel
theorem dL_law_252 : decode cL_law 252 = .ok (.iload_n 3, 1) := by decide +kernel
theorem dL_law_253 : decode cL_law 253 = .ok (.iconst 1, 1) := by decide +kernel
theorem dL_law_254 : decode cL_law 254 = .ok (.iadd, 1) := by decide +kernel
theorem dL_law_255 : decode cL_law 255 = .ok (.iaload, 1) := by decide +kernel
theorem dL_law_256 : decode cL_law 256 = .ok (.invokevirtual 32, 3) := by decide +kernel
theorem dL_law_259 : decode cL_law 259 = .ok (.if_icmp .eq 429, 3) := by decide +kernel
theorem dL_law_262 : decode cL_law 262 = .ok (.iconst 0, 1) := by decide +kernel
theorem dL_law_263 : decode cL_law 263 = .ok (.ireturn, 1) := by decide +kernel
theorem dL_law_264 : decode cL_law 264 = .ok (.aload_n 1, 1) := by decide +kernel
theorem dL_law_265 : decode cL_law 265 = .ok (.invokevirtual 33, 3) := by decide +kernel
theorem dL_law_268 : decode cL_law 268 = .ok (.aload_n 2, 1) := by decide +kernel
theorem dL_law_269 : decode cL_law 269 = .ok (.invokevirtual 36, 3) := by decide +kernel
theorem dL_law_272 : decode cL_law 272 = .ok (.if_icmp .eq 416, 3) := by decide +kernel
theorem dL_law_275 : decode cL_law 275 = .ok (.iconst 0, 1) := by decide +kernel
theorem dL_law_276 : decode cL_law 276 = .ok (.ireturn, 1) := by decide +kernel
theorem dL_law_277 : decode cL_law 277 = .ok (.aload_n 1, 1) := by decide +kernel
theorem dL_law_278 : decode cL_law 278 = .ok (.aload_n 0, 1) := by decide +kernel
theorem dL_law_279 : decode cL_law 279 = .ok (.iload_n 3, 1) := by decide +kernel
theorem dL_law_280 : decode cL_law 280 = .ok (.iconst 1, 1) := by decide +kernel
theorem dL_law_281 : decode cL_law 281 = .ok (.iadd, 1) := by decide +kernel
theorem dL_law_282 : decode cL_law 282 = .ok (.iaload, 1) := by decide +kernel
theorem dL_law_283 : decode cL_law 283 = .ok (.invokevirtual 37, 3) := by decide +kernel
theorem dL_law_286 : decode cL_law 286 = .ok (.aload_n 2, 1) := by decide +kernel
theorem dL_law_287 : decode cL_law 287 = .ok (.aload_n 0, 1) := by decide +kernel
theorem dL_law_288 : decode cL_law 288 = .ok (.iload_n 3, 1) := by decide +kernel
theorem dL_law_289 : decode cL_law 289 = .ok (.iconst 1, 1) := by decide +kernel
theorem dL_law_290 : decode cL_law 290 = .ok (.iadd, 1) := by decide +kernel
theorem dL_law_291 : decode cL_law 291 = .ok (.iaload, 1) := by decide +kernel
theorem dL_law_292 : decode cL_law 292 = .ok (.invokevirtual 40, 3) := by decide +kernel
theorem dL_law_295 : decode cL_law 295 = .ok (.if_icmp .eq 393, 3) := by decide +kernel
theorem dL_law_298 : decode cL_law 298 = .ok (.iconst 0, 1) := by decide +kernel
theorem dL_law_299 : decode cL_law 299 = .ok (.ireturn, 1) := by decide +kernel
theorem dL_law_300 : decode cL_law 300 = .ok (.aload_n 1, 1) := by decide +kernel
theorem dL_law_301 : decode cL_law 301 = .ok (.aload_n 0, 1) := by decide +kernel
theorem dL_law_302 : decode cL_law 302 = .ok (.iload_n 3, 1) := by decide +kernel
theorem dL_law_303 : decode cL_law 303 = .ok (.iconst 1, 1) := by decide +kernel
theorem dL_law_304 : decode cL_law 304 = .ok (.iadd, 1) := by decide +kernel
theorem dL_law_305 : decode cL_law 305 = .ok (.iaload, 1) := by decide +kernel
theorem dL_law_306 : decode cL_law 306 = .ok (.aload_n 0, 1) := by decide +kernel
theorem dL_law_307 : decode cL_law 307 = .ok (.iload_n 3, 1) := by decide +kernel
theorem dL_law_308 : decode cL_law 308 = .ok (.iconst 2, 1) := by decide +kernel
theorem dL_law_309 : decode cL_law 309 = .ok (.iadd, 1) := by decide +kernel
theorem dL_law_310 : decode cL_law 310 = .ok (.iaload, 1) := by decide +kernel
theorem dL_law_311 : decode cL_law 311 = .ok (.invokevirtual 41, 3) := by decide +kernel
theorem dL_law_314 : decode cL_law 314 = .ok (.aload_n 2, 1) := by decide +kernel
theorem dL_law_315 : decode cL_law 315 = .ok (.aload_n 0, 1) := by decide +kernel
theorem dL_law_316 : decode cL_law 316 = .ok (.iload_n 3, 1) := by decide +kernel
theorem dL_law_317 : decode cL_law 317 = .ok (.iconst 1, 1) := by decide +kernel
theorem dL_law_318 : decode cL_law 318 = .ok (.iadd, 1) := by decide +kernel
theorem dL_law_319 : decode cL_law 319 = .ok (.iaload, 1) := by decide +kernel
theorem dL_law_320 : decode cL_law 320 = .ok (.aload_n 0, 1) := by decide +kernel
theorem dL_law_321 : decode cL_law 321 = .ok (.iload_n 3, 1) := by decide +kernel
theorem dL_law_322 : decode cL_law 322 = .ok (.iconst 2, 1) := by decide +kernel
theorem dL_law_323 : decode cL_law 323 = .ok (.iadd, 1) := by decide +kernel
theorem dL_law_324 : decode cL_law 324 = .ok (.iaload, 1) := by decide +kernel
theorem dL_law_325 : decode cL_law 325 = .ok (.invokevirtual 44, 3) := by decide +kernel
theorem dL_law_328 : decode cL_law 328 = .ok (.if_icmp .eq 360, 3) := by decide +kernel
theorem dL_law_331 : decode cL_law 331 = .ok (.iconst 0, 1) := by decide +kernel
theorem dL_law_332 : decode cL_law 332 = .ok (.ireturn, 1) := by decide +kernel
theorem dL_law_333 : decode cL_law 333 = .ok (.aload_n 1, 1) := by decide +kernel
theorem dL_law_334 : decode cL_law 334 = .ok (.aload_n 0, 1) := by decide +kernel
theorem dL_law_335 : decode cL_law 335 = .ok (.iload_n 3, 1) := by decide +kernel
theorem dL_law_336 : decode cL_law 336 = .ok (.iconst 1, 1) := by decide +kernel
theorem dL_law_337 : decode cL_law 337 = .ok (.iadd, 1) := by decide +kernel
theorem dL_law_338 : decode cL_law 338 = .ok (.iaload, 1) := by decide +kernel
theorem dL_law_339 : decode cL_law 339 = .ok (.aload_n 0, 1) := by decide +kernel
theorem dL_law_340 : decode cL_law 340 = .ok (.iload_n 3, 1) := by decide +kernel
theorem dL_law_341 : decode cL_law 341 = .ok (.iconst 2, 1) := by decide +kernel
theorem dL_law_342 : decode cL_law 342 = .ok (.iadd, 1) := by decide +kernel
theorem dL_law_343 : decode cL_law 343 = .ok (.iaload, 1) := by decide +kernel
theorem dL_law_344 : decode cL_law 344 = .ok (.aload_n 0, 1) := by decide +kernel
theorem dL_law_345 : decode cL_law 345 = .ok (.iload_n 3, 1) := by decide +kernel
theorem dL_law_346 : decode cL_law 346 = .ok (.iconst 3, 1) := by decide +kernel
theorem dL_law_347 : decode cL_law 347 = .ok (.iadd, 1) := by decide +kernel
theorem dL_law_348 : decode cL_law 348 = .ok (.iaload, 1) := by decide +kernel
theorem dL_law_349 : decode cL_law 349 = .ok (.invokevirtual 45, 3) := by decide +kernel
theorem dL_law_352 : decode cL_law 352 = .ok (.aload_n 2, 1) := by decide +kernel
theorem dL_law_353 : decode cL_law 353 = .ok (.aload_n 0, 1) := by decide +kernel
theorem dL_law_354 : decode cL_law 354 = .ok (.iload_n 3, 1) := by decide +kernel
theorem dL_law_355 : decode cL_law 355 = .ok (.iconst 1, 1) := by decide +kernel
theorem dL_law_356 : decode cL_law 356 = .ok (.iadd, 1) := by decide +kernel
theorem dL_law_357 : decode cL_law 357 = .ok (.iaload, 1) := by decide +kernel
theorem dL_law_358 : decode cL_law 358 = .ok (.aload_n 0, 1) := by decide +kernel
theorem dL_law_359 : decode cL_law 359 = .ok (.iload_n 3, 1) := by decide +kernel
theorem dL_law_360 : decode cL_law 360 = .ok (.iconst 2, 1) := by decide +kernel
theorem dL_law_361 : decode cL_law 361 = .ok (.iadd, 1) := by decide +kernel
theorem dL_law_362 : decode cL_law 362 = .ok (.iaload, 1) := by decide +kernel
theorem dL_law_363 : decode cL_law 363 = .ok (.aload_n 0, 1) := by decide +kernel
theorem dL_law_364 : decode cL_law 364 = .ok (.iload_n 3, 1) := by decide +kernel
theorem dL_law_365 : decode cL_law 365 = .ok (.iconst 3, 1) := by decide +kernel
theorem dL_law_366 : decode cL_law 366 = .ok (.iadd, 1) := by decide +kernel
theorem dL_law_367 : decode cL_law 367 = .ok (.iaload, 1) := by decide +kernel
theorem dL_law_368 : decode cL_law 368 = .ok (.invokevirtual 49, 3) := by decide +kernel
theorem dL_law_371 : decode cL_law 371 = .ok (.if_icmp .eq 317, 3) := by decide +kernel
theorem dL_law_374 : decode cL_law 374 = .ok (.iconst 0, 1) := by decide +kernel
theorem dL_law_375 : decode cL_law 375 = .ok (.ireturn, 1) := by decide +kernel
theorem dL_law_376 : decode cL_law 376 = .ok (.aload_n 1, 1) := by decide +kernel
theorem dL_law_377 : decode cL_law 377 = .ok (.aload_n 0, 1) := by decide +kernel
theorem dL_law_378 : decode cL_law 378 = .ok (.iload_n 3, 1) := by decide +kernel
theorem dL_law_379 : decode cL_law 379 = .ok (.iconst 1, 1) := by decide +kernel
theorem dL_law_380 : decode cL_law 380 = .ok (.iadd, 1) := by decide +kernel
theorem dL_law_381 : decode cL_law 381 = .ok (.iaload, 1) := by decide +kernel
theorem dL_law_382 : decode cL_law 382 = .ok (.aload_n 0, 1) := by decide +kernel
theorem dL_law_383 : decode cL_law 383 = .ok (.iload_n 3, 1) := by decide +kernel
theorem dL_law_384 : decode cL_law 384 = .ok (.iconst 2, 1) := by decide +kernel
theorem dL_law_385 : decode cL_law 385 = .ok (.iadd, 1) := by decide +kernel
theorem dL_law_386 : decode cL_law 386 = .ok (.iaload, 1) := by decide +kernel
theorem dL_law_387 : decode cL_law 387 = .ok (.invokevirtual 50, 3) := by decide +kernel
theorem dL_law_390 : decode cL_law 390 = .ok (.aload_n 2, 1) := by decide +kernel
theorem dL_law_391 : decode cL_law 391 = .ok (.aload_n 0, 1) := by decide +kernel
theorem dL_law_392 : decode cL_law 392 = .ok (.iload_n 3, 1) := by decide +kernel
theorem dL_law_393 : decode cL_law 393 = .ok (.iconst 1, 1) := by decide +kernel
theorem dL_law_394 : decode cL_law 394 = .ok (.iadd, 1) := by decide +kernel
theorem dL_law_395 : decode cL_law 395 = .ok (.iaload, 1) := by decide +kernel
theorem dL_law_396 : decode cL_law 396 = .ok (.aload_n 0, 1) := by decide +kernel
theorem dL_law_397 : decode cL_law 397 = .ok (.iload_n 3, 1) := by decide +kernel
theorem dL_law_398 : decode cL_law 398 = .ok (.iconst 2, 1) := by decide +kernel
theorem dL_law_399 : decode cL_law 399 = .ok (.iadd, 1) := by decide +kernel
theorem dL_law_400 : decode cL_law 400 = .ok (.iaload, 1) := by decide +kernel
theorem dL_law_401 : decode cL_law 401 = .ok (.invokevirtual 53, 3) := by decide +kernel
theorem dL_law_404 : decode cL_law 404 = .ok (.if_icmp .eq 284, 3) := by decide +kernel
theorem dL_law_407 : decode cL_law 407 = .ok (.iconst 0, 1) := by decide +kernel
theorem dL_law_408 : decode cL_law 408 = .ok (.ireturn, 1) := by decide +kernel
theorem dL_law_409 : decode cL_law 409 = .ok (.aload_n 1, 1) := by decide +kernel
theorem dL_law_410 : decode cL_law 410 = .ok (.aload_n 0, 1) := by decide +kernel
theorem dL_law_411 : decode cL_law 411 = .ok (.iload_n 3, 1) := by decide +kernel
theorem dL_law_412 : decode cL_law 412 = .ok (.iconst 1, 1) := by decide +kernel
theorem dL_law_413 : decode cL_law 413 = .ok (.iadd, 1) := by decide +kernel
theorem dL_law_414 : decode cL_law 414 = .ok (.iaload, 1) := by decide +kernel
theorem dL_law_415 : decode cL_law 415 = .ok (.invokevirtual 54, 3) := by decide +kernel
theorem dL_law_418 : decode cL_law 418 = .ok (.aload_n 2, 1) := by decide +kernel
theorem dL_law_419 : decode cL_law 419 = .ok (.aload_n 0, 1) := by decide +kernel
theorem dL_law_420 : decode cL_law 420 = .ok (.iload_n 3, 1) := by decide +kernel
theorem dL_law_421 : decode cL_law 421 = .ok (.iconst 1, 1) := by decide +kernel
theorem dL_law_422 : decode cL_law 422 = .ok (.iadd, 1) := by decide +kernel
theorem dL_law_423 : decode cL_law 423 = .ok (.iaload, 1) := by decide +kernel
theorem dL_law_424 : decode cL_law 424 = .ok (.invokevirtual 57, 3) := by decide +kernel
theorem dL_law_427 : decode cL_law 427 = .ok (.if_icmp .eq 261, 3) := by decide +kernel
theorem dL_law_430 : decode cL_law 430 = .ok (.iconst 0, 1) := by decide +kernel
theorem dL_law_431 : decode cL_law 431 = .ok (.ireturn, 1) := by decide +kernel
theorem dL_law_432 : decode cL_law 432 = .ok (.aload_n 1, 1) := by decide +kernel
theorem dL_law_433 : decode cL_law 433 = .ok (.aload_n 0, 1) := by decide +kernel
theorem dL_law_434 : decode cL_law 434 = .ok (.iload_n 3, 1) := by decide +kernel
theorem dL_law_435 : decode cL_law 435 = .ok (.iconst 1, 1) := by decide +kernel
theorem dL_law_436 : decode cL_law 436 = .ok (.iadd, 1) := by decide +kernel
theorem dL_law_437 : decode cL_law 437 = .ok (.iaload, 1) := by decide +kernel
theorem dL_law_438 : decode cL_law 438 = .ok (.invokevirtual 58, 3) := by decide +kernel
theorem dL_law_441 : decode cL_law 441 = .ok (.aload_n 2, 1) := by decide +kernel
theorem dL_law_442 : decode cL_law 442 = .ok (.aload_n 0, 1) := by decide +kernel
theorem dL_law_443 : decode cL_law 443 = .ok (.iload_n 3, 1) := by decide +kernel
theorem dL_law_444 : decode cL_law 444 = .ok (.iconst 1, 1) := by decide +kernel
theorem dL_law_445 : decode cL_law 445 = .ok (.iadd, 1) := by decide +kernel
theorem dL_law_446 : decode cL_law 446 = .ok (.iaload, 1) := by decide +kernel
theorem dL_law_447 : decode cL_law 447 = .ok (.invokevirtual 61, 3) := by decide +kernel
theorem dL_law_450 : decode cL_law 450 = .ok (.if_icmp .eq 238, 3) := by decide +kernel
theorem dL_law_453 : decode cL_law 453 = .ok (.iconst 0, 1) := by decide +kernel
theorem dL_law_454 : decode cL_law 454 = .ok (.ireturn, 1) := by decide +kernel
theorem dL_law_455 : decode cL_law 455 = .ok (.aload_n 1, 1) := by decide +kernel
theorem dL_law_456 : decode cL_law 456 = .ok (.aload_n 0, 1) := by decide +kernel
theorem dL_law_457 : decode cL_law 457 = .ok (.iload_n 3, 1) := by decide +kernel
theorem dL_law_458 : decode cL_law 458 = .ok (.iconst 1, 1) := by decide +kernel
theorem dL_law_459 : decode cL_law 459 = .ok (.iadd, 1) := by decide +kernel
theorem dL_law_460 : decode cL_law 460 = .ok (.iaload, 1) := by decide +kernel
theorem dL_law_461 : decode cL_law 461 = .ok (.invokevirtual 62, 3) := by decide +kernel
theorem dL_law_464 : decode cL_law 464 = .ok (.aload_n 2, 1) := by decide +kernel
theorem dL_law_465 : decode cL_law 465 = .ok (.aload_n 0, 1) := by decide +kernel
theorem dL_law_466 : decode cL_law 466 = .ok (.iload_n 3, 1) := by decide +kernel
theorem dL_law_467 : decode cL_law 467 = .ok (.iconst 1, 1) := by decide +kernel
theorem dL_law_468 : decode cL_law 468 = .ok (.iadd, 1) := by decide +kernel
theorem dL_law_469 : decode cL_law 469 = .ok (.iaload, 1) := by decide +kernel
theorem dL_law_470 : decode cL_law 470 = .ok (.invokevirtual 65, 3) := by decide +kernel
theorem dL_law_473 : decode cL_law 473 = .ok (.if_icmp .eq 215, 3) := by decide +kernel
theorem dL_law_476 : decode cL_law 476 = .ok (.iconst 0, 1) := by decide +kernel
theorem dL_law_477 : decode cL_law 477 = .ok (.ireturn, 1) := by decide +kernel
theorem dL_law_478 : decode cL_law 478 = .ok (.aload_n 1, 1) := by decide +kernel
theorem dL_law_479 : decode cL_law 479 = .ok (.invokevirtual 66, 3) := by decide +kernel
theorem dL_law_482 : decode cL_law 482 = .ok (.aload_n 2, 1) := by decide +kernel
theorem dL_law_483 : decode cL_law 483 = .ok (.invokevirtual 69, 3) := by decide +kernel
theorem dL_law_486 : decode cL_law 486 = .ok (.if_icmp .eq 202, 3) := by decide +kernel
theorem dL_law_489 : decode cL_law 489 = .ok (.iconst 0, 1) := by decide +kernel
theorem dL_law_490 : decode cL_law 490 = .ok (.ireturn, 1) := by decide +kernel
theorem dL_law_491 : decode cL_law 491 = .ok (.aload_n 1, 1) := by decide +kernel
theorem dL_law_492 : decode cL_law 492 = .ok (.aload_n 0, 1) := by decide +kernel
theorem dL_law_493 : decode cL_law 493 = .ok (.iload_n 3, 1) := by decide +kernel
theorem dL_law_494 : decode cL_law 494 = .ok (.iconst 1, 1) := by decide +kernel
theorem dL_law_495 : decode cL_law 495 = .ok (.iadd, 1) := by decide +kernel
theorem dL_law_496 : decode cL_law 496 = .ok (.iaload, 1) := by decide +kernel
theorem dL_law_497 : decode cL_law 497 = .ok (.aload_n 0, 1) := by decide +kernel
theorem dL_law_498 : decode cL_law 498 = .ok (.iload_n 3, 1) := by decide +kernel
theorem dL_law_499 : decode cL_law 499 = .ok (.iconst 2, 1) := by decide +kernel
theorem dL_law_500 : decode cL_law 500 = .ok (.iadd, 1) := by decide +kernel
theorem dL_law_501 : decode cL_law 501 = .ok (.iaload, 1) := by decide +kernel
theorem dL_law_502 : decode cL_law 502 = .ok (.invokevirtual 70, 3) := by decide +kernel
theorem dL_law_505 : decode cL_law 505 = .ok (.aload_n 2, 1) := by decide +kernel
theorem dL_law_506 : decode cL_law 506 = .ok (.aload_n 0, 1) := by decide +kernel
theorem dL_law_507 : decode cL_law 507 = .ok (.iload_n 3, 1) := by decide +kernel
theorem dL_law_508 : decode cL_law 508 = .ok (.iconst 1, 1) := by decide +kernel
theorem dL_law_509 : decode cL_law 509 = .ok (.iadd, 1) := by decide +kernel
theorem dL_law_510 : decode cL_law 510 = .ok (.iaload, 1) := by decide +kernel
theorem dL_law_511 : decode cL_law 511 = .ok (.aload_n 0, 1) := by decide +kernel
theorem dL_law_512 : decode cL_law 512 = .ok (.iload_n 3, 1) := by decide +kernel
theorem dL_law_513 : decode cL_law 513 = .ok (.iconst 2, 1) := by decide +kernel
theorem dL_law_514 : decode cL_law 514 = .ok (.iadd, 1) := by decide +kernel
theorem dL_law_515 : decode cL_law 515 = .ok (.iaload, 1) := by decide +kernel
theorem dL_law_516 : decode cL_law 516 = .ok (.invokevirtual 73, 3) := by decide +kernel
theorem dL_law_519 : decode cL_law 519 = .ok (.if_icmp .eq 169, 3) := by decide +kernel
theorem dL_law_522 : decode cL_law 522 = .ok (.iconst 0, 1) := by decide +kernel
theorem dL_law_523 : decode cL_law 523 = .ok (.ireturn, 1) := by decide +kernel
theorem dL_law_524 : decode cL_law 524 = .ok (.aload_n 1, 1) := by decide +kernel
theorem dL_law_525 : decode cL_law 525 = .ok (.invokevirtual 74, 3) := by decide +kernel
theorem dL_law_528 : decode cL_law 528 = .ok (.aload_n 2, 1) := by decide +kernel
theorem dL_law_529 : decode cL_law 529 = .ok (.invokevirtual 77, 3) := by decide +kernel
theorem dL_law_532 : decode cL_law 532 = .ok (.if_icmp .eq 156, 3) := by decide +kernel
theorem dL_law_535 : decode cL_law 535 = .ok (.iconst 0, 1) := by decide +kernel
theorem dL_law_536 : decode cL_law 536 = .ok (.ireturn, 1) := by decide +kernel
theorem dL_law_537 : decode cL_law 537 = .ok (.aload_n 1, 1) := by decide +kernel
theorem dL_law_538 : decode cL_law 538 = .ok (.invokevirtual 78, 3) := by decide +kernel
theorem dL_law_541 : decode cL_law 541 = .ok (.aload_n 2, 1) := by decide +kernel
theorem dL_law_542 : decode cL_law 542 = .ok (.invokevirtual 81, 3) := by decide +kernel
theorem dL_law_545 : decode cL_law 545 = .ok (.if_icmp .eq 143, 3) := by decide +kernel
theorem dL_law_548 : decode cL_law 548 = .ok (.iconst 0, 1) := by decide +kernel
theorem dL_law_549 : decode cL_law 549 = .ok (.ireturn, 1) := by decide +kernel
theorem dL_law_550 : decode cL_law 550 = .ok (.aload_n 1, 1) := by decide +kernel
theorem dL_law_551 : decode cL_law 551 = .ok (.aload_n 0, 1) := by decide +kernel
theorem dL_law_552 : decode cL_law 552 = .ok (.iload_n 3, 1) := by decide +kernel
theorem dL_law_553 : decode cL_law 553 = .ok (.iconst 1, 1) := by decide +kernel
theorem dL_law_554 : decode cL_law 554 = .ok (.iadd, 1) := by decide +kernel
theorem dL_law_555 : decode cL_law 555 = .ok (.iaload, 1) := by decide +kernel
theorem dL_law_556 : decode cL_law 556 = .ok (.i2l, 1) := by decide +kernel
theorem dL_law_557 : decode cL_law 557 = .ok (.bipush 32, 2) := by decide +kernel
theorem dL_law_559 : decode cL_law 559 = .ok (.lshl, 1) := by decide +kernel
theorem dL_law_560 : decode cL_law 560 = .ok (.aload_n 0, 1) := by decide +kernel
theorem dL_law_561 : decode cL_law 561 = .ok (.iload_n 3, 1) := by decide +kernel
theorem dL_law_562 : decode cL_law 562 = .ok (.iconst 2, 1) := by decide +kernel
theorem dL_law_563 : decode cL_law 563 = .ok (.iadd, 1) := by decide +kernel
theorem dL_law_564 : decode cL_law 564 = .ok (.iaload, 1) := by decide +kernel
theorem dL_law_565 : decode cL_law 565 = .ok (.i2l, 1) := by decide +kernel
theorem dL_law_566 : decode cL_law 566 = .ok (.ldc2_w 82, 3) := by decide +kernel
theorem dL_law_569 : decode cL_law 569 = .ok (.land, 1) := by decide +kernel
theorem dL_law_570 : decode cL_law 570 = .ok (.lor, 1) := by decide +kernel
theorem dL_law_571 : decode cL_law 571 = .ok (.invokevirtual 84, 3) := by decide +kernel
theorem dL_law_574 : decode cL_law 574 = .ok (.aload_n 2, 1) := by decide +kernel
theorem dL_law_575 : decode cL_law 575 = .ok (.aload_n 0, 1) := by decide +kernel
theorem dL_law_576 : decode cL_law 576 = .ok (.iload_n 3, 1) := by decide +kernel
theorem dL_law_577 : decode cL_law 577 = .ok (.iconst 1, 1) := by decide +kernel
theorem dL_law_578 : decode cL_law 578 = .ok (.iadd, 1) := by decide +kernel
theorem dL_law_579 : decode cL_law 579 = .ok (.iaload, 1) := by decide +kernel
theorem dL_law_580 : decode cL_law 580 = .ok (.i2l, 1) := by decide +kernel
theorem dL_law_581 : decode cL_law 581 = .ok (.bipush 32, 2) := by decide +kernel
theorem dL_law_583 : decode cL_law 583 = .ok (.lshl, 1) := by decide +kernel
theorem dL_law_584 : decode cL_law 584 = .ok (.aload_n 0, 1) := by decide +kernel
theorem dL_law_585 : decode cL_law 585 = .ok (.iload_n 3, 1) := by decide +kernel
theorem dL_law_586 : decode cL_law 586 = .ok (.iconst 2, 1) := by decide +kernel
theorem dL_law_587 : decode cL_law 587 = .ok (.iadd, 1) := by decide +kernel
theorem dL_law_588 : decode cL_law 588 = .ok (.iaload, 1) := by decide +kernel
theorem dL_law_589 : decode cL_law 589 = .ok (.i2l, 1) := by decide +kernel
theorem dL_law_590 : decode cL_law 590 = .ok (.ldc2_w 82, 3) := by decide +kernel
theorem dL_law_593 : decode cL_law 593 = .ok (.land, 1) := by decide +kernel
theorem dL_law_594 : decode cL_law 594 = .ok (.lor, 1) := by decide +kernel
theorem dL_law_595 : decode cL_law 595 = .ok (.invokevirtual 88, 3) := by decide +kernel
theorem dL_law_598 : decode cL_law 598 = .ok (.if_icmp .eq 90, 3) := by decide +kernel
theorem dL_law_601 : decode cL_law 601 = .ok (.iconst 0, 1) := by decide +kernel
theorem dL_law_602 : decode cL_law 602 = .ok (.ireturn, 1) := by decide +kernel
theorem dL_law_603 : decode cL_law 603 = .ok (.aload_n 1, 1) := by decide +kernel
theorem dL_law_604 : decode cL_law 604 = .ok (.invokevirtual 89, 3) := by decide +kernel
theorem dL_law_607 : decode cL_law 607 = .ok (.aload_n 2, 1) := by decide +kernel
theorem dL_law_608 : decode cL_law 608 = .ok (.invokevirtual 92, 3) := by decide +kernel
theorem dL_law_611 : decode cL_law 611 = .ok (.if_icmp .eq 77, 3) := by decide +kernel
theorem dL_law_614 : decode cL_law 614 = .ok (.iconst 0, 1) := by decide +kernel
theorem dL_law_615 : decode cL_law 615 = .ok (.ireturn, 1) := by decide +kernel
theorem dL_law_616 : decode cL_law 616 = .ok (.aload_n 1, 1) := by decide +kernel
theorem dL_law_617 : decode cL_law 617 = .ok (.invokevirtual 93, 3) := by decide +kernel
theorem dL_law_620 : decode cL_law 620 = .ok (.aload_n 2, 1) := by decide +kernel
theorem dL_law_621 : decode cL_law 621 = .ok (.invokevirtual 96, 3) := by decide +kernel
theorem dL_law_624 : decode cL_law 624 = .ok (.if_icmp .eq 64, 3) := by decide +kernel
theorem dL_law_627 : decode cL_law 627 = .ok (.iconst 0, 1) := by decide +kernel
theorem dL_law_628 : decode cL_law 628 = .ok (.ireturn, 1) := by decide +kernel
theorem dL_law_629 : decode cL_law 629 = .ok (.aload_n 1, 1) := by decide +kernel
theorem dL_law_630 : decode cL_law 630 = .ok (.invokevirtual 97, 3) := by decide +kernel
theorem dL_law_633 : decode cL_law 633 = .ok (.aload_n 2, 1) := by decide +kernel
theorem dL_law_634 : decode cL_law 634 = .ok (.invokevirtual 100, 3) := by decide +kernel
theorem dL_law_637 : decode cL_law 637 = .ok (.if_icmp .eq 51, 3) := by decide +kernel
theorem dL_law_640 : decode cL_law 640 = .ok (.iconst 0, 1) := by decide +kernel
theorem dL_law_641 : decode cL_law 641 = .ok (.ireturn, 1) := by decide +kernel
theorem dL_law_642 : decode cL_law 642 = .ok (.aload_n 1, 1) := by decide +kernel
theorem dL_law_643 : decode cL_law 643 = .ok (.aload_n 0, 1) := by decide +kernel
theorem dL_law_644 : decode cL_law 644 = .ok (.iload_n 3, 1) := by decide +kernel
theorem dL_law_645 : decode cL_law 645 = .ok (.iconst 1, 1) := by decide +kernel
theorem dL_law_646 : decode cL_law 646 = .ok (.iadd, 1) := by decide +kernel
theorem dL_law_647 : decode cL_law 647 = .ok (.iaload, 1) := by decide +kernel
theorem dL_law_648 : decode cL_law 648 = .ok (.invokevirtual 101, 3) := by decide +kernel
theorem dL_law_651 : decode cL_law 651 = .ok (.aload_n 2, 1) := by decide +kernel
theorem dL_law_652 : decode cL_law 652 = .ok (.aload_n 0, 1) := by decide +kernel
theorem dL_law_653 : decode cL_law 653 = .ok (.iload_n 3, 1) := by decide +kernel
theorem dL_law_654 : decode cL_law 654 = .ok (.iconst 1, 1) := by decide +kernel
theorem dL_law_655 : decode cL_law 655 = .ok (.iadd, 1) := by decide +kernel
theorem dL_law_656 : decode cL_law 656 = .ok (.iaload, 1) := by decide +kernel
theorem dL_law_657 : decode cL_law 657 = .ok (.invokevirtual 104, 3) := by decide +kernel
theorem dL_law_660 : decode cL_law 660 = .ok (.if_icmp .eq 28, 3) := by decide +kernel
theorem dL_law_663 : decode cL_law 663 = .ok (.iconst 0, 1) := by decide +kernel
theorem dL_law_664 : decode cL_law 664 = .ok (.ireturn, 1) := by decide +kernel
theorem dL_law_665 : decode cL_law 665 = .ok (.aload_n 1, 1) := by decide +kernel
theorem dL_law_666 : decode cL_law 666 = .ok (.aload_n 0, 1) := by decide +kernel
theorem dL_law_667 : decode cL_law 667 = .ok (.iload_n 3, 1) := by decide +kernel
theorem dL_law_668 : decode cL_law 668 = .ok (.iconst 1, 1) := by decide +kernel
theorem dL_law_669 : decode cL_law 669 = .ok (.iadd, 1) := by decide +kernel
theorem dL_law_670 : decode cL_law 670 = .ok (.iaload, 1) := by decide +kernel
theorem dL_law_671 : decode cL_law 671 = .ok (.invokevirtual 105, 3) := by decide +kernel
theorem dL_law_674 : decode cL_law 674 = .ok (.aload_n 2, 1) := by decide +kernel
theorem dL_law_675 : decode cL_law 675 = .ok (.aload_n 0, 1) := by decide +kernel
theorem dL_law_676 : decode cL_law 676 = .ok (.iload_n 3, 1) := by decide +kernel
theorem dL_law_677 : decode cL_law 677 = .ok (.iconst 1, 1) := by decide +kernel
theorem dL_law_678 : decode cL_law 678 = .ok (.iadd, 1) := by decide +kernel
theorem dL_law_679 : decode cL_law 679 = .ok (.iaload, 1) := by decide +kernel
theorem dL_law_680 : decode cL_law 680 = .ok (.invokevirtual 108, 3) := by decide +kernel
theorem dL_law_683 : decode cL_law 683 = .ok (.if_icmp .eq 5, 3) := by decide +kernel
theorem dL_law_686 : decode cL_law 686 = .ok (.iconst 0, 1) := by decide +kernel
theorem dL_law_687 : decode cL_law 687 = .ok (.ireturn, 1) := by decide +kernel
theorem dL_law_688 : decode cL_law 688 = .ok (.iinc 3 4, 3) := by decide +kernel
theorem dL_law_691 : decode cL_law 691 = .ok (.goto (-673), 3) := by decide +kernel
theorem dL_law_694 : decode cL_law 694 = .ok (.iconst 1, 1) := by decide +kernel
theorem dL_law_695 : decode cL_law 695 = .ok (.ireturn, 1) := by decide +kernel
end
section
/-! ===== a small kit over the kit: all methods share one list of words; a contract speaks of cells at fixed places ===== -/
theorem xk_good : wsL_law.all goodWord = true := by decide +kernel
theorem xk_G {c0 : Cond} {y : MethodName} {cc : ByteArray} {n : Nat} {ret : Option FieldType} (h : Cond.code y cc n ret ∈ wsL_law) : GoodIn (c0 :: wsL_law) (Cond.code y cc n ret :: wsL_law) := by
  intro w hw
  have hm : w ∈ wsL_law := by
    rcases List.mem_cons.mp hw with e | hw
    · rw [e]; exact h
    · exact hw
  exact ⟨List.mem_cons_of_mem _ hm, good_of_word (List.all_eq_true.mp xk_good _ hm)⟩
def xk_nf : List (String × Nat × String × String × String × String) := [("MarchMetres$Settings", 15, "MarchMetres", "FIRST_VALUES", "[I", "MarchMetres"), ("MarchMetres", 89, "MarchMetres$Song", "lines", "I", "MarchMetres"), ("MarchMetres$March", 115, "MarchMetres$Song", "lines", "I", "MarchMetres"), ("MarchMetres$March", 57, "MarchMetres$Road", "stretches", "I", "MarchMetres"), ("MarchMetres", 99, "MarchMetres$Road", "stretches", "I", "MarchMetres"), ("MarchMetres", 122, "MarchMetres$March", "beats", "I", "MarchMetres"), ("MarchMetres", 168, "MarchMetres$March", "ticks", "I", "MarchMetres"), ("MarchMetres", 171, "MarchMetres$March", "line", "I", "MarchMetres"), ("MarchMetres", 174, "MarchMetres$March", "foot", "I", "MarchMetres"), ("MarchMetres", 177, "MarchMetres$March", "beat", "I", "MarchMetres"), ("MarchMetres", 180, "MarchMetres$March", "stretch", "I", "MarchMetres"), ("MarchMetres", 183, "MarchMetres$March", "steps", "I", "MarchMetres"), ("MarchMetres", 186, "MarchMetres$March", "breath", "I", "MarchMetres"), ("MarchMetres", 189, "MarchMetres$March", "pauseLeft", "I", "MarchMetres"), ("MarchMetres", 192, "MarchMetres$March", "allSteps", "I", "MarchMetres"), ("MarchMetres", 195, "MarchMetres$March", "skipped", "I", "MarchMetres"), ("MarchMetres", 198, "MarchMetres$March", "gasps", "I", "MarchMetres"), ("MarchMetres", 201, "MarchMetres$March", "songs", "I", "MarchMetres"), ("MarchMetres", 204, "MarchMetres$March", "sung", "I", "MarchMetres"), ("MarchMetres", 63, "MarchMetres$State", "settings", "LMarchMetres$Settings;", "MarchMetres"), ("MarchMetres", 78, "MarchMetres$State", "song", "LMarchMetres$Song;", "MarchMetres"), ("MarchMetres", 95, "MarchMetres$State", "road", "LMarchMetres$Road;", "MarchMetres"), ("MarchMetres", 119, "MarchMetres$State", "march", "LMarchMetres$March;", "MarchMetres"), ("MarchMetres", 218, "MarchMetres$History", "size", "I", "MarchMetres"), ("MarchMetres", 215, "MarchMetres$Pad", "length", "I", "MarchMetres"), ("MarchMetres$Settings", 22, "MarchMetres", "LEAST_VALUES", "[I", "MarchMetres"), ("MarchMetres$Settings", 25, "MarchMetres", "MOST_VALUES", "[I", "MarchMetres")]
def xk_nm : List (String × Nat × MethodName × String) := [("MarchMetres", 11, ⟨"MarchMetres$State", "<init>", "()V"⟩, "MarchMetres"), ("MarchMetres$State", 20, ⟨"MarchMetres$Song", "<init>", "()V"⟩, "MarchMetres"), ("MarchMetres$State", 27, ⟨"MarchMetres$Road", "<init>", "()V"⟩, "MarchMetres"), ("MarchMetres$State", 34, ⟨"MarchMetres$March", "<init>", "()V"⟩, "MarchMetres"), ("MarchMetres$History", 17, ⟨"MarchMetres$State", "<init>", "()V"⟩, "MarchMetres"), ("MarchMetres", 33, ⟨"MarchMetres$Pad", "<init>", "()V"⟩, "MarchMetres"), ("MarchMetres", 40, ⟨"MarchMetres$March", "<init>", "()V"⟩, "MarchMetres")]
def xN (U : State) : Prop := (∀ q ∈ xk_nf, va_Nw (.fieldLinkNest q.1 q.2.1 q.2.2.1 q.2.2.2.1 q.2.2.2.2.1 q.2.2.2.2.2) U) ∧ (∀ q ∈ xk_nm, va_Nw (.methodLinkNest q.1 q.2.1 q.2.2.1 q.2.2.2) U) ∧ va_AO "MarchMetres$State" U ∧ va_Nw (.constant "MarchMetres" 238 1000000) U
theorem xN_warm {s U : State} (hW : s.WarmedH U.vm) (h : xN s) : xN U := ⟨fun q hq => va_Nw.warmF hW (h.1 q hq), fun q hq => va_Nw.warmM hW (h.2.1 q hq), va_AO.moved hW.alike h.2.2.1, (word_at hW (Or.inl (by first | rfl | decide)) h.2.2.2 : (Cond.constant "MarchMetres" 238 1000000).before #[] U = true)⟩
theorem xN_same {s U : State} (e : s.vm = U.vm) (h : xN s) : xN U := ⟨fun q hq => va_Nw.same rfl e (h.1 q hq), fun q hq => va_Nw.same rfl e (h.2.1 q hq), va_AO.moved (by rw [e]; exact Vm.Alike.refl _) h.2.2.1, va_Nw.same rfl e h.2.2.2⟩
theorem xnf_0 {s : State} {args : Array Value} (h : xN s) : (Cond.fieldLinkNest "MarchMetres$Settings" 15 "MarchMetres" "FIRST_VALUES" "[I" "MarchMetres").before args s = true := va_Nw.use rfl (h.1 ("MarchMetres$Settings", 15, "MarchMetres", "FIRST_VALUES", "[I", "MarchMetres") (List.mem_of_getElem? (i := 0) rfl))
theorem xnf_1 {s : State} {args : Array Value} (h : xN s) : (Cond.fieldLinkNest "MarchMetres" 89 "MarchMetres$Song" "lines" "I" "MarchMetres").before args s = true := va_Nw.use rfl (h.1 ("MarchMetres", 89, "MarchMetres$Song", "lines", "I", "MarchMetres") (List.mem_of_getElem? (i := 1) rfl))
theorem xnf_2 {s : State} {args : Array Value} (h : xN s) : (Cond.fieldLinkNest "MarchMetres$March" 115 "MarchMetres$Song" "lines" "I" "MarchMetres").before args s = true := va_Nw.use rfl (h.1 ("MarchMetres$March", 115, "MarchMetres$Song", "lines", "I", "MarchMetres") (List.mem_of_getElem? (i := 2) rfl))
theorem xnf_3 {s : State} {args : Array Value} (h : xN s) : (Cond.fieldLinkNest "MarchMetres$March" 57 "MarchMetres$Road" "stretches" "I" "MarchMetres").before args s = true := va_Nw.use rfl (h.1 ("MarchMetres$March", 57, "MarchMetres$Road", "stretches", "I", "MarchMetres") (List.mem_of_getElem? (i := 3) rfl))
theorem xnf_4 {s : State} {args : Array Value} (h : xN s) : (Cond.fieldLinkNest "MarchMetres" 99 "MarchMetres$Road" "stretches" "I" "MarchMetres").before args s = true := va_Nw.use rfl (h.1 ("MarchMetres", 99, "MarchMetres$Road", "stretches", "I", "MarchMetres") (List.mem_of_getElem? (i := 4) rfl))
theorem xnf_5 {s : State} {args : Array Value} (h : xN s) : (Cond.fieldLinkNest "MarchMetres" 122 "MarchMetres$March" "beats" "I" "MarchMetres").before args s = true := va_Nw.use rfl (h.1 ("MarchMetres", 122, "MarchMetres$March", "beats", "I", "MarchMetres") (List.mem_of_getElem? (i := 5) rfl))
theorem xnf_6 {s : State} {args : Array Value} (h : xN s) : (Cond.fieldLinkNest "MarchMetres" 168 "MarchMetres$March" "ticks" "I" "MarchMetres").before args s = true := va_Nw.use rfl (h.1 ("MarchMetres", 168, "MarchMetres$March", "ticks", "I", "MarchMetres") (List.mem_of_getElem? (i := 6) rfl))
theorem xnf_7 {s : State} {args : Array Value} (h : xN s) : (Cond.fieldLinkNest "MarchMetres" 171 "MarchMetres$March" "line" "I" "MarchMetres").before args s = true := va_Nw.use rfl (h.1 ("MarchMetres", 171, "MarchMetres$March", "line", "I", "MarchMetres") (List.mem_of_getElem? (i := 7) rfl))
theorem xnf_8 {s : State} {args : Array Value} (h : xN s) : (Cond.fieldLinkNest "MarchMetres" 174 "MarchMetres$March" "foot" "I" "MarchMetres").before args s = true := va_Nw.use rfl (h.1 ("MarchMetres", 174, "MarchMetres$March", "foot", "I", "MarchMetres") (List.mem_of_getElem? (i := 8) rfl))
theorem xnf_9 {s : State} {args : Array Value} (h : xN s) : (Cond.fieldLinkNest "MarchMetres" 177 "MarchMetres$March" "beat" "I" "MarchMetres").before args s = true := va_Nw.use rfl (h.1 ("MarchMetres", 177, "MarchMetres$March", "beat", "I", "MarchMetres") (List.mem_of_getElem? (i := 9) rfl))
theorem xnf_10 {s : State} {args : Array Value} (h : xN s) : (Cond.fieldLinkNest "MarchMetres" 180 "MarchMetres$March" "stretch" "I" "MarchMetres").before args s = true := va_Nw.use rfl (h.1 ("MarchMetres", 180, "MarchMetres$March", "stretch", "I", "MarchMetres") (List.mem_of_getElem? (i := 10) rfl))
theorem xnf_11 {s : State} {args : Array Value} (h : xN s) : (Cond.fieldLinkNest "MarchMetres" 183 "MarchMetres$March" "steps" "I" "MarchMetres").before args s = true := va_Nw.use rfl (h.1 ("MarchMetres", 183, "MarchMetres$March", "steps", "I", "MarchMetres") (List.mem_of_getElem? (i := 11) rfl))
theorem xnf_12 {s : State} {args : Array Value} (h : xN s) : (Cond.fieldLinkNest "MarchMetres" 186 "MarchMetres$March" "breath" "I" "MarchMetres").before args s = true := va_Nw.use rfl (h.1 ("MarchMetres", 186, "MarchMetres$March", "breath", "I", "MarchMetres") (List.mem_of_getElem? (i := 12) rfl))
theorem xnf_13 {s : State} {args : Array Value} (h : xN s) : (Cond.fieldLinkNest "MarchMetres" 189 "MarchMetres$March" "pauseLeft" "I" "MarchMetres").before args s = true := va_Nw.use rfl (h.1 ("MarchMetres", 189, "MarchMetres$March", "pauseLeft", "I", "MarchMetres") (List.mem_of_getElem? (i := 13) rfl))
theorem xnf_14 {s : State} {args : Array Value} (h : xN s) : (Cond.fieldLinkNest "MarchMetres" 192 "MarchMetres$March" "allSteps" "I" "MarchMetres").before args s = true := va_Nw.use rfl (h.1 ("MarchMetres", 192, "MarchMetres$March", "allSteps", "I", "MarchMetres") (List.mem_of_getElem? (i := 14) rfl))
theorem xnf_15 {s : State} {args : Array Value} (h : xN s) : (Cond.fieldLinkNest "MarchMetres" 195 "MarchMetres$March" "skipped" "I" "MarchMetres").before args s = true := va_Nw.use rfl (h.1 ("MarchMetres", 195, "MarchMetres$March", "skipped", "I", "MarchMetres") (List.mem_of_getElem? (i := 15) rfl))
theorem xnf_16 {s : State} {args : Array Value} (h : xN s) : (Cond.fieldLinkNest "MarchMetres" 198 "MarchMetres$March" "gasps" "I" "MarchMetres").before args s = true := va_Nw.use rfl (h.1 ("MarchMetres", 198, "MarchMetres$March", "gasps", "I", "MarchMetres") (List.mem_of_getElem? (i := 16) rfl))
theorem xnf_17 {s : State} {args : Array Value} (h : xN s) : (Cond.fieldLinkNest "MarchMetres" 201 "MarchMetres$March" "songs" "I" "MarchMetres").before args s = true := va_Nw.use rfl (h.1 ("MarchMetres", 201, "MarchMetres$March", "songs", "I", "MarchMetres") (List.mem_of_getElem? (i := 17) rfl))
theorem xnf_18 {s : State} {args : Array Value} (h : xN s) : (Cond.fieldLinkNest "MarchMetres" 204 "MarchMetres$March" "sung" "I" "MarchMetres").before args s = true := va_Nw.use rfl (h.1 ("MarchMetres", 204, "MarchMetres$March", "sung", "I", "MarchMetres") (List.mem_of_getElem? (i := 18) rfl))
theorem xnf_19 {s : State} {args : Array Value} (h : xN s) : (Cond.fieldLinkNest "MarchMetres" 63 "MarchMetres$State" "settings" "LMarchMetres$Settings;" "MarchMetres").before args s = true := va_Nw.use rfl (h.1 ("MarchMetres", 63, "MarchMetres$State", "settings", "LMarchMetres$Settings;", "MarchMetres") (List.mem_of_getElem? (i := 19) rfl))
theorem xnf_20 {s : State} {args : Array Value} (h : xN s) : (Cond.fieldLinkNest "MarchMetres" 78 "MarchMetres$State" "song" "LMarchMetres$Song;" "MarchMetres").before args s = true := va_Nw.use rfl (h.1 ("MarchMetres", 78, "MarchMetres$State", "song", "LMarchMetres$Song;", "MarchMetres") (List.mem_of_getElem? (i := 20) rfl))
theorem xnf_21 {s : State} {args : Array Value} (h : xN s) : (Cond.fieldLinkNest "MarchMetres" 95 "MarchMetres$State" "road" "LMarchMetres$Road;" "MarchMetres").before args s = true := va_Nw.use rfl (h.1 ("MarchMetres", 95, "MarchMetres$State", "road", "LMarchMetres$Road;", "MarchMetres") (List.mem_of_getElem? (i := 21) rfl))
theorem xnf_22 {s : State} {args : Array Value} (h : xN s) : (Cond.fieldLinkNest "MarchMetres" 119 "MarchMetres$State" "march" "LMarchMetres$March;" "MarchMetres").before args s = true := va_Nw.use rfl (h.1 ("MarchMetres", 119, "MarchMetres$State", "march", "LMarchMetres$March;", "MarchMetres") (List.mem_of_getElem? (i := 22) rfl))
theorem xnf_23 {s : State} {args : Array Value} (h : xN s) : (Cond.fieldLinkNest "MarchMetres" 218 "MarchMetres$History" "size" "I" "MarchMetres").before args s = true := va_Nw.use rfl (h.1 ("MarchMetres", 218, "MarchMetres$History", "size", "I", "MarchMetres") (List.mem_of_getElem? (i := 23) rfl))
theorem xnf_24 {s : State} {args : Array Value} (h : xN s) : (Cond.fieldLinkNest "MarchMetres" 215 "MarchMetres$Pad" "length" "I" "MarchMetres").before args s = true := va_Nw.use rfl (h.1 ("MarchMetres", 215, "MarchMetres$Pad", "length", "I", "MarchMetres") (List.mem_of_getElem? (i := 24) rfl))
theorem xnf_25 {s : State} {args : Array Value} (h : xN s) : (Cond.fieldLinkNest "MarchMetres$Settings" 22 "MarchMetres" "LEAST_VALUES" "[I" "MarchMetres").before args s = true := va_Nw.use rfl (h.1 ("MarchMetres$Settings", 22, "MarchMetres", "LEAST_VALUES", "[I", "MarchMetres") (List.mem_of_getElem? (i := 25) rfl))
theorem xnf_26 {s : State} {args : Array Value} (h : xN s) : (Cond.fieldLinkNest "MarchMetres$Settings" 25 "MarchMetres" "MOST_VALUES" "[I" "MarchMetres").before args s = true := va_Nw.use rfl (h.1 ("MarchMetres$Settings", 25, "MarchMetres", "MOST_VALUES", "[I", "MarchMetres") (List.mem_of_getElem? (i := 26) rfl))
theorem xnm_0 {s : State} (h : xN s) : va_Nw (.methodLinkNest "MarchMetres" 11 ⟨"MarchMetres$State", "<init>", "()V"⟩ "MarchMetres") s := h.2.1 ("MarchMetres", 11, ⟨"MarchMetres$State", "<init>", "()V"⟩, "MarchMetres") (List.mem_of_getElem? (i := 0) rfl)
theorem xnm_1 {s : State} (h : xN s) : va_Nw (.methodLinkNest "MarchMetres$State" 20 ⟨"MarchMetres$Song", "<init>", "()V"⟩ "MarchMetres") s := h.2.1 ("MarchMetres$State", 20, ⟨"MarchMetres$Song", "<init>", "()V"⟩, "MarchMetres") (List.mem_of_getElem? (i := 1) rfl)
theorem xnm_2 {s : State} (h : xN s) : va_Nw (.methodLinkNest "MarchMetres$State" 27 ⟨"MarchMetres$Road", "<init>", "()V"⟩ "MarchMetres") s := h.2.1 ("MarchMetres$State", 27, ⟨"MarchMetres$Road", "<init>", "()V"⟩, "MarchMetres") (List.mem_of_getElem? (i := 2) rfl)
theorem xnm_3 {s : State} (h : xN s) : va_Nw (.methodLinkNest "MarchMetres$State" 34 ⟨"MarchMetres$March", "<init>", "()V"⟩ "MarchMetres") s := h.2.1 ("MarchMetres$State", 34, ⟨"MarchMetres$March", "<init>", "()V"⟩, "MarchMetres") (List.mem_of_getElem? (i := 3) rfl)
theorem xnm_4 {s : State} (h : xN s) : va_Nw (.methodLinkNest "MarchMetres$History" 17 ⟨"MarchMetres$State", "<init>", "()V"⟩ "MarchMetres") s := h.2.1 ("MarchMetres$History", 17, ⟨"MarchMetres$State", "<init>", "()V"⟩, "MarchMetres") (List.mem_of_getElem? (i := 4) rfl)
theorem xnm_5 {s : State} (h : xN s) : va_Nw (.methodLinkNest "MarchMetres" 33 ⟨"MarchMetres$Pad", "<init>", "()V"⟩ "MarchMetres") s := h.2.1 ("MarchMetres", 33, ⟨"MarchMetres$Pad", "<init>", "()V"⟩, "MarchMetres") (List.mem_of_getElem? (i := 5) rfl)
theorem xnm_6 {s : State} (h : xN s) : va_Nw (.methodLinkNest "MarchMetres" 40 ⟨"MarchMetres$March", "<init>", "()V"⟩ "MarchMetres") s := h.2.1 ("MarchMetres", 40, ⟨"MarchMetres$March", "<init>", "()V"⟩, "MarchMetres") (List.mem_of_getElem? (i := 6) rfl)
def xvF : Nat → Value := fun j => .int (match j with | 0 => 4 | 1 => 1 | 2 => 3 | 3 => 4 | 4 => 30 | _ => 4)
def xvL : Nat → Value := fun j => .int (match j with | 0 => 1 | 1 => 0 | 2 => 1 | 3 => 1 | 4 => 5 | _ => 2)
def xvM : Nat → Value := fun j => .int (match j with | 0 => 9 | 1 => 9 | 2 => 9 | 3 => 20 | 4 => 60 | _ => 9)
def xZ1 (n : String) (f : Nat → Value) (A : Nat → Prop) (U : State) (H : Heap) : Prop := ∃ t : Nat, va_Z "MarchMetres" n "[I" (.ref t) A U H ∧ va_T .int t 6 f A U H
theorem xZ1_pass {n : String} {f : Nat → Value} {A B : Nat → Prop} {s U : State} {H : Heap} {locs : List Loc} (h : xZ1 n f A s s.heap) (hS : va_S A s.heap H locs) (hF : ∀ q, B q → A q) (hvm : s.vm.Alike U.vm) (hU : U.heap = H) : xZ1 n f B U U.heap := by
  obtain ⟨t, h1, h2⟩ := h
  subst hU
  exact ⟨t, ((h1.kept hS.2.1).narrow hF).moved hvm, ((h2.kept hS.2.1).narrow hF).moved hvm⟩
theorem xZ1_same {n : String} {f : Nat → Value} {A : Nat → Prop} {s U : State} (h : xZ1 n f A s s.heap) (hvm : s.vm.Alike U.vm) (hU : U.heap = s.heap) : xZ1 n f A U U.heap := by
  obtain ⟨t, h1, h2⟩ := h
  rw [hU]
  exact ⟨t, h1.moved hvm, h2.moved hvm⟩
/-- the three tables of the class -/
def xZ (A : Nat → Prop) (U : State) : Prop := xZ1 "FIRST_VALUES" xvF A U U.heap ∧ xZ1 "LEAST_VALUES" xvL A U U.heap ∧ xZ1 "MOST_VALUES" xvM A U U.heap
theorem xZ_pass {A B : Nat → Prop} {s U : State} {H : Heap} {locs : List Loc} (h : xZ A s) (hS : va_S A s.heap H locs) (hF : ∀ q, B q → A q) (hvm : s.vm.Alike U.vm) (hU : U.heap = H) : xZ B U := ⟨xZ1_pass h.1 hS hF hvm hU, xZ1_pass h.2.1 hS hF hvm hU, xZ1_pass h.2.2 hS hF hvm hU⟩
theorem xZ_same {A : Nat → Prop} {s U : State} (h : xZ A s) (hvm : s.vm.Alike U.vm) (hU : U.heap = s.heap) : xZ A U := ⟨xZ1_same h.1 hvm hU, xZ1_same h.2.1 hvm hU, xZ1_same h.2.2 hvm hU⟩
/-- what holds as a method begins -/
def xPre (D : va_G) (tys : List (ClassId × FieldType)) (wc : va_W) (sz : Nat) (U : State) : Prop := U.heap.size = sz ∧ va_P D vwCl wc U.heap ∧ va_K D vwCl tys U ∧ va_D (fun _ => True) wc ∧ xN U ∧ xZ (va_A wc sz) U
theorem xPre_blind {D : va_G} {tys : List (ClassId × FieldType)} {wc : va_W} {sz : Nat} {As : List Value} : FrameBlind (va_Pc As (xPre D tys wc sz)) := by
  intro a U g mk h
  obtain ⟨h0, h1, h2, h3, h4, h5, h6⟩ := h
  exact ⟨h0, h1, h2, va_K.moved (u := U) (U := U.calling g mk a) (Vm.Alike.refl U.vm) h3, h4, xN_same (s := U) (U := U.calling g mk a) rfl h5, xZ_same (s := U) (U := U.calling g mk a) h6 (Vm.Alike.refl U.vm) rfl⟩
theorem xPre_of {D : va_G} {tys : List (ClassId × FieldType)} {ws wc : va_W} {A : Nat → Prop} {s : State} {H : Heap} {locs : List Loc} {As : List Value} (hK : va_K D vwCl tys s) (hN : xN s) (hZ : xZ A s) (hP : va_P D vwCl ws H) (hD : va_D A ws) (hS : va_S A s.heap H locs) (hA : ∀ q, s.heap.size ≤ q → A q) (is : List Nat) (hn : va_nd is = true) (hC : is.map (fun i => ws[i]?) = wc.map some) : ∀ U : State, U.heap = H → s.WarmedH U.vm → va_Pc As (xPre D tys wc H.size) As.toArray U := by
  intro U hU hW
  refine ⟨rfl, by rw [hU], ?_, va_K.moved hW.alike hK, (hD.sub is hn hC).weaken (fun _ _ _ _ => trivial), xN_warm hW hN, xZ_pass hZ hS (va_free hD hS hA is hC) hW.alike hU⟩
  rw [hU]
  intro k q hk
  obtain ⟨i, -, hi⟩ := va_in_of is hC hk
  exact hP i q hi
/-- the cells at the places is are put anew -/
def xSet : va_W → List Nat → va_W → va_W
  | ws, [], _ => ws
  | ws, _ :: _, [] => ws
  | ws, i :: is, e :: es => xSet (ws.set i e) is es
theorem xSet_get : ∀ (is : List Nat) (w1 ws : va_W) (k : Nat) (q : Nat × va_E), is.length = w1.length → (∀ i ∈ is, i < ws.length) → (xSet ws is w1)[k]? = some q → (∃ j : Nat, is[j]? = some k ∧ w1[j]? = some q) ∨ (k ∉ is ∧ ws[k]? = some q)
  | [], w1, ws, k, q, _, _, h => Or.inr ⟨List.not_mem_nil, by simpa [xSet] using h⟩
  | i :: is, [], ws, k, q, hl, _, h => by simp at hl
  | i :: is, e :: es, ws, k, q, hl, hi, h => by
    have hl' : is.length = es.length := by simpa using hl
    have h' : (xSet (ws.set i e) is es)[k]? = some q := h
    rcases xSet_get is es (ws.set i e) k q hl' (fun j hj => by rw [List.length_set]; exact hi j (List.mem_cons_of_mem _ hj)) h' with ⟨j, h1, h2⟩ | ⟨h1, h2⟩
    · exact Or.inl ⟨j + 1, by simpa using h1, by simpa using h2⟩
    · by_cases hk : k = i
      · subst hk
        rw [List.getElem?_set_self (hi k List.mem_cons_self)] at h2
        exact Or.inl ⟨0, rfl, by simpa using h2⟩
      · rw [List.getElem?_set_ne (Ne.symm hk)] at h2
        exact Or.inr ⟨fun z => (List.mem_cons.mp z).elim hk h1, h2⟩
theorem xk_places {ws wc : va_W} {is : List Nat} (hC : is.map (fun i => ws[i]?) = wc.map some) : is.length = wc.length ∧ (∀ i ∈ is, i < ws.length) ∧ ∀ (j k : Nat), is[j]? = some k → ∃ q, wc[j]? = some q ∧ ws[k]? = some q := by
  have hl : is.length = wc.length := by simpa using congrArg List.length hC
  have key : ∀ (j k : Nat), is[j]? = some k → ∃ q, wc[j]? = some q ∧ ws[k]? = some q := by
    intro j k h
    have h1 : (is.map (fun i => ws[i]?))[j]? = some (ws[k]?) := by rw [List.getElem?_map, h]; rfl
    rw [hC, List.getElem?_map] at h1
    cases hq : wc[j]? with
    | none => rw [hq] at h1; cases h1
    | some q => rw [hq] at h1; exact ⟨q, rfl, (Option.some.inj h1).symm⟩
  refine ⟨hl, fun i hi => ?_, key⟩
  obtain ⟨j, hj⟩ := List.getElem?_of_mem hi
  obtain ⟨q, -, h2⟩ := key j i hj
  exact (List.getElem?_eq_some_iff.mp h2).1
theorem xk_same {w1 wc : va_W} (ha : w1.map Prod.fst = wc.map Prod.fst) {j : Nat} {q : Nat × va_E} (h : w1[j]? = some q) : ∃ q0, wc[j]? = some q0 ∧ q0.1 = q.1 := by
  have h1 : (w1.map Prod.fst)[j]? = some q.1 := by rw [List.getElem?_map, h]; rfl
  rw [ha, List.getElem?_map] at h1
  cases hq : wc[j]? with
  | none => rw [hq] at h1; cases h1
  | some q0 => rw [hq] at h1; exact ⟨q0, rfl, Option.some.inj h1⟩
theorem xSet_D {A : Nat → Prop} {ws wc w1 : va_W} {is : List Nat} (hD : va_D A ws) (hC : is.map (fun i => ws[i]?) = wc.map some) (ha : w1.map Prod.fst = wc.map Prod.fst) : va_D A (xSet ws is w1) := by
  obtain ⟨hl, hi, hj⟩ := xk_places hC
  have hl1 : is.length = w1.length := by rw [hl]; simpa using (congrArg List.length ha).symm
  have key : ∀ (k : Nat) (q : Nat × va_E), (xSet ws is w1)[k]? = some q → ∃ q0, ws[k]? = some q0 ∧ q0.1 = q.1 := by
    intro k q h
    rcases xSet_get is w1 ws k q hl1 hi h with ⟨j, h1, h2⟩ | ⟨h1, h2⟩
    · obtain ⟨q0, g1, g2⟩ := xk_same ha h2
      obtain ⟨q1, g3, g4⟩ := hj j k h1
      rw [g1] at g3; cases g3
      exact ⟨q0, g4, g2⟩
    · exact ⟨q, h2, rfl⟩
  refine ⟨fun i j x y hx hy hxy => ?_, fun k q hk => ?_⟩
  · obtain ⟨x0, h1, h2⟩ := key i x hx
    obtain ⟨y0, h3, h4⟩ := key j y hy
    exact hD.1 i j x0 y0 h1 h3 (h2.trans (hxy.trans h4.symm))
  · obtain ⟨q0, h1, h2⟩ := key k q hk
    rw [← h2]
    exact hD.2 k q0 h1
theorem xk_join {A0 : Nat → Prop} {D : va_G} {cl : List vw_C} {ws wc w1 : va_W} {H H1 : Heap} (hP : va_P D cl ws H) (hD : va_D A0 ws) {is : List Nat} (hC : is.map (fun i => ws[i]?) = wc.map some) (ha : w1.map Prod.fst = wc.map Prod.fst) (hk : ∀ q : Nat, q < H.size → ¬ va_A wc H.size q → H1[q]? = H[q]?) (hP1 : va_P D cl w1 H1) : va_P D cl (xSet ws is w1) H1 ∧ va_D A0 (xSet ws is w1) := by
  refine ⟨fun k q h => ?_, xSet_D hD hC ha⟩
  obtain ⟨hl, hi, hj⟩ := xk_places hC
  have hl1 : is.length = w1.length := by rw [hl]; simpa using (congrArg List.length ha).symm
  rcases xSet_get is w1 ws k q hl1 hi h with ⟨j, h1, h2⟩ | ⟨h1, h2⟩
  · exact hP1 j q h2
  · have hlt := (hP k q h2).lt
    refine (hP k q h2).kept (hk q.1 hlt (fun z => ?_))
    rcases z with ⟨j, e, hz⟩ | hz
    · obtain ⟨i, g1, g2⟩ := va_in_of is hC hz
      have := hD.1 k i q (q.1, e) h2 g2 rfl
      subst this
      exact h1 (List.mem_of_getElem? g1)
    · omega
/-- a contract that answers an int (or a boolean); one that answers nothing -/
def xMi (l : Launch) (y : MethodName) (cc : ByteArray) (maxL : Nat) (ret : Option FieldType) (rm : Room) (D : va_G) (tys : List (ClassId × FieldType)) (As : List Value) (wc : va_W) {S : Type} (post : Int32 → S → Prop) (w1 : S → va_W) : Prop := ∀ sz : Nat, Met l y (Cond.code y cc maxL ret :: wsL_law) rm (va_Pc As (xPre D tys wc sz)) (va_Qi post (fun u t => va_P D vwCl (w1 u) t.heap) (va_A wc sz)) 0 0 (va_A wc sz)
def xMv (l : Launch) (y : MethodName) (cc : ByteArray) (maxL : Nat) (ret : Option FieldType) (rm : Room) (D : va_G) (tys : List (ClassId × FieldType)) (As : List Value) (wc : va_W) {S : Type} (post : S → Prop) (w1 : S → va_W) : Prop := ∀ sz : Nat, Met l y (Cond.code y cc maxL ret :: wsL_law) rm (va_Pc As (xPre D tys wc sz)) (va_Qv post (fun u t => va_P D vwCl (w1 u) t.heap) (va_A wc sz)) 0 0 (va_A wc sz)
/-- the goal of a method's body, at its entry -/
abbrev xBody (l : Launch) (y : MethodName) (cc : ByteArray) (maxL : Nat) (ret : Option FieldType) (rm : Room) (D : va_G) (tys : List (ClassId × FieldType)) (As : List Value) (wc : va_W) (Qc : (Nat → Prop) → Array Value → State → Outcome → State → Prop) : Prop :=
  ∀ (p : Program) (e : Env) (s : State) (m : MethodId) (below : List Frame) (meth : Method) (c : Code) (A : Nat → Prop) (ls : Array Slot) (args : Array Value) (Q : State → Prop), p.tables.exec = Jvm.exec → c.code = cc → meth.sig.returnType = ret → (∀ w ∈ Cond.code y cc maxL ret :: wsL_law, w.before args s = true) → s.vm.findClass y.cls = some m.cls → meth.locks = false → c.maxLocals = maxL → meth.name = y.name → va_K D vwCl tys s → va_P D vwCl wc s.heap → va_D A wc → va_S A s.heap s.heap [] → (∀ q, s.heap.size ≤ q → A q) → xN s → xZ A s → lv_has ls maxL (lv_args 0 As) → Q = MQ below (Qc A) args s 0 0 A → W p l e rm s m args below meth c s.heap [] 0 0 Q (F0 m 0 ls [])
theorem xk_body {l : Launch} {y : MethodName} {cc : ByteArray} {maxL : Nat} {ret : Option FieldType} {rm : Room} {D : va_G} {tys : List (ClassId × FieldType)} {As : List Value} {wc : va_W} {Qc : (Nat → Prop) → Array Value → State → Outcome → State → Prop} (hy : plainName y.cls = true) (hl : (lg_sl As).length ≤ maxL) (body : xBody l y cc maxL ret rm D tys As wc Qc) (sz : Nat) : Met l y (Cond.code y cc maxL ret :: wsL_law) rm (va_Pc As (xPre D tys wc sz)) (Qc (va_A wc sz)) 0 0 (va_A wc sz) := by
  refine Met.ofW (cc := cc) (maxL := maxL) (ret := ret) hy rfl ?_
  intro p e s m args below meth c s₁ B hml hv
  obtain ⟨rfl, hsz, hP, hK, hD0, hN, hZ⟩ := hv
  have hx := B.exec
  have hb := B.bytes
  have hr := B.returns
  have hts := atoms_spec (ws := Cond.code y cc maxL ret :: wsL_law) B.pre
  have hown : s.vm.findClass y.cls = some m.cls := findClass_of_methodNamed B.named
  have hlocks := B.notSynchronized
  have hin : meth.name = y.name := (name_of_methodNamed B.named B.method).1
  subst hsz
  have hD := hD0.self (sz := s.heap.size)
  generalize hAe : va_A wc s.heap.size = A at hD hZ ⊢
  have hA : ∀ q : Nat, s.heap.size ≤ q → A q := fun q h => by rw [← hAe]; exact Or.inr h
  have hS : va_S A s.heap s.heap [] := va_S.rf
  rw [lg_entry_eq]
  exact body p e s m below meth c A _ _ _ hx hb hr hts hown hlocks hml hin hK hP hD hS hA hN hZ (lv_entry As hl) rfl
theorem xk_bodyi {l : Launch} {y : MethodName} {cc : ByteArray} {maxL : Nat} {ret : Option FieldType} {rm : Room} {D : va_G} {tys : List (ClassId × FieldType)} {As : List Value} {wc : va_W} {S : Type} {post : Int32 → S → Prop} {w1 : S → va_W} (hy : plainName y.cls = true) (hl : (lg_sl As).length ≤ maxL) (body : xBody l y cc maxL ret rm D tys As wc (fun A => va_Qi post (fun u t => va_P D vwCl (w1 u) t.heap) A)) : xMi l y cc maxL ret rm D tys As wc post w1 := fun sz => xk_body (Qc := fun A => va_Qi post (fun u t => va_P D vwCl (w1 u) t.heap) A) hy hl body sz
theorem xk_bodyv {l : Launch} {y : MethodName} {cc : ByteArray} {maxL : Nat} {ret : Option FieldType} {rm : Room} {D : va_G} {tys : List (ClassId × FieldType)} {As : List Value} {wc : va_W} {S : Type} {post : S → Prop} {w1 : S → va_W} (hy : plainName y.cls = true) (hl : (lg_sl As).length ≤ maxL) (body : xBody l y cc maxL ret rm D tys As wc (fun A => va_Qv post (fun u t => va_P D vwCl (w1 u) t.heap) A)) : xMv l y cc maxL ret rm D tys As wc post w1 := fun sz => xk_body (Qc := fun A => va_Qv post (fun u t => va_P D vwCl (w1 u) t.heap) A) hy hl body sz
/-- a method's words of the tables -/
def xMB (y : MethodName) (cc : ByteArray) (maxL : Nat) (ret : Option FieldType) (C : String) (n : Nat) : Prop := Cond.code y cc maxL ret ∈ wsL_law ∧ Cond.initialized y.cls ∈ wsL_law ∧ y.cls = C ∧ y.cls ≠ "java/lang/invoke/MethodHandle" ∧ y.cls ≠ "java/lang/invoke/VarHandle" ∧ (parseMethodDescriptor y.desc).map (fun d => d.parameters.length) = some n
section XC
variable {p : Program} {l : Launch} {e : Env} {R : Room} {s : State} {m : MethodId} {args : Array Value} {below : List Frame} {meth : Method} {c : Code} {H : Heap} {locs : List Loc} {cells slots : Nat} {Q : State → Prop}
variable {cc : ByteArray} {pc nL : Nat} {ls : Array Slot} {rest st0 : List Value} {D : va_G} {tys : List (ClassId × FieldType)} {ws wc : va_W} {A : Nat → Prop} {c0 : Cond} {own : String}
variable {y : MethodName} {bytes : ByteArray} {maxL idx n : Nat} {ret : Option FieldType} {rm : Room} {As : List Value} {S : Type}
theorem xk_top {x z : Int32} (h : x = z) (k : W p l e R s m args below meth c H locs cells slots Q (F0 m pc ls (.int z :: rest))) : W p l e R s m args below meth c H locs cells slots Q (F0 m pc ls (.int x :: rest)) := by rw [h]; exact k
theorem xk_topl {x z : Int64} (h : x = z) (k : W p l e R s m args below meth c H locs cells slots Q (F0 m pc ls (.long z :: rest))) : W p l e R s m args below meth c H locs cells slots Q (F0 m pc ls (.long x :: rest)) := by rw [h]; exact k
theorem xk_stk {st st' : List Value} (h : st = st') (k : W p l e R s m args below meth c H locs cells slots Q (F0 m pc ls st')) : W p l e R s m args below meth c H locs cells slots Q (F0 m pc ls st) := by rw [h]; exact k
theorem xk_ci {post : Int32 → S → Prop} {w1 : S → va_W} {a : Array Value} (hr : va_Run p l e R s m args below meth c H locs cells slots 0 0 (F0 m pc ls st0) rest (va_Qi post (fun u t => va_P D vwCl (w1 u) t.heap) (va_A wc H.size) a) (va_A wc H.size)) (hP : va_P D vwCl ws H) (hD : va_D A ws) (hS : va_S A s.heap H locs) (hA : ∀ q, s.heap.size ≤ q → A q) (is : List Nat) (hC : is.map (fun i => ws[i]?) = wc.map some) (ha : ∀ u, (w1 u).map Prod.fst = wc.map Prod.fst)
    (kk : ∀ (r : Int32) (u : S) (H1 : Heap) (locs1 : List Loc), post r u → va_P D vwCl (xSet ws is (w1 u)) H1 → va_D A (xSet ws is (w1 u)) → va_S A s.heap H1 locs1 → W p l e R s m args below meth c H1 locs1 cells slots Q (F0 m (pc + 3) ls (.int r :: rest))) : W p l e R s m args below meth c H locs cells slots Q (F0 m pc ls st0) := by
  have hF := va_free (wc := wc) hD hS hA is hC
  refine va_calli hr hS (fun q _ h => hF q h) hF (fun r u t H1 locs1 ht hvm hp hb hz hk hS1 => ?_)
  have hP1 : va_P D vwCl (w1 u) H1 := by rw [← ht]; exact hb
  obtain ⟨g1, g2⟩ := xk_join hP hD hC (ha u) hk hP1
  exact kk r u H1 locs1 hp g1 g2 hS1
theorem xk_cv {post : S → Prop} {w1 : S → va_W} {a : Array Value} (hr : va_Run p l e R s m args below meth c H locs cells slots 0 0 (F0 m pc ls st0) rest (va_Qv post (fun u t => va_P D vwCl (w1 u) t.heap) (va_A wc H.size) a) (va_A wc H.size)) (hP : va_P D vwCl ws H) (hD : va_D A ws) (hS : va_S A s.heap H locs) (hA : ∀ q, s.heap.size ≤ q → A q) (is : List Nat) (hC : is.map (fun i => ws[i]?) = wc.map some) (ha : ∀ u, (w1 u).map Prod.fst = wc.map Prod.fst)
    (kk : ∀ (u : S) (H1 : Heap) (locs1 : List Loc), post u → va_P D vwCl (xSet ws is (w1 u)) H1 → va_D A (xSet ws is (w1 u)) → va_S A s.heap H1 locs1 → W p l e R s m args below meth c H1 locs1 cells slots Q (F0 m (pc + 3) ls rest)) : W p l e R s m args below meth c H locs cells slots Q (F0 m pc ls st0) := by
  have hF := va_free (wc := wc) hD hS hA is hC
  refine va_callv hr hS (fun q _ h => hF q h) hF (fun u t H1 locs1 ht hvm hp hb hz hk hS1 => ?_)
  have hP1 : va_P D vwCl (w1 u) H1 := by rw [← ht]; exact hb
  obtain ⟨g1, g2⟩ := xk_join hP hD hC (ha u) hk hP1
  exact kk u H1 locs1 hp g1 g2 hS1
theorem xk_cb (hts : ∀ w ∈ c0 :: wsL_law, w.before args s = true) {C : String} (hB : xMB y bytes maxL ret C n) (hlink : Cond.methodLink own idx y ∈ wsL_law) (hR : rm.frames + 1 ≤ R.frames ∧ 8 + (maxL + 11) + rm.locals ≤ R.locals) (hrm : rm.cells = 0 ∧ rm.slots = 0) : CallB R s args own idx y bytes maxL ret (Cond.code y bytes maxL ret :: wsL_law) rm 0 0 n :=
  callB_of n hts (xk_G hB.1) rfl hrm.1 hrm.2 (hts _ (List.mem_cons_of_mem _ hB.2.1)) (hts _ (List.mem_cons_of_mem _ hlink)) hB.2.2.2 hR
/-- a virtual call that answers an int -/
theorem xk_Vi (hx : p.tables.exec = Jvm.exec) (hb : c.code = cc) (hml : c.maxLocals = nL) (hown : s.vm.findClass own = some m.cls) (hts : ∀ w ∈ c0 :: wsL_law, w.before args s = true) (hK : va_K D vwCl tys s) (hN : xN s) (hZ : xZ A s) (hP : va_P D vwCl ws H) (hD : va_D A ws) (hS : va_S A s.heap H locs) (hA : ∀ q, s.heap.size ≤ q → A q)
    {b : Addr} {C : String} {T : u_T} {N : Nat} {post : Int32 → S → Prop} {w1 : S → va_W} (hB : xMB y bytes maxL ret C n) (hlink : Cond.methodLink own idx y ∈ wsL_law) (hinst : Cond.instanceMethod y ∈ wsL_law) (hsel : Cond.selects C y y ∈ wsL_law) (hM : xMi l y bytes maxL ret rm D tys (.ref b :: As) wc post w1) (is : List Nat) (q0 ci : Nat) {fs : List Value} (he : ws[q0]? = some (b, .inr (ci, fs))) (hc : vwCl[ci]? = some (C, T, N))
    (hnd : va_nd is = true) (hC : is.map (fun i => ws[i]?) = wc.map some) (ha : ∀ u, (w1 u).map Prod.fst = wc.map Prod.fst) (hR : rm.frames + 1 ≤ R.frames ∧ 8 + (maxL + 11) + rm.locals ≤ R.locals) (hrm : rm.cells = 0 ∧ rm.slots = 0) (hn : As.length = n) (hsz : ls.size = nL) (hst : st0 = As.reverse ++ .ref b :: rest) (hrest : (rest.map fun v => v.category).sum ≤ 8) (hdg : decode cc pc = .ok (.invokevirtual idx, 3)) (hcs : cells ≤ R.cells ∧ slots ≤ R.slots)
    (kk : ∀ (r : Int32) (u : S) (H1 : Heap) (locs1 : List Loc), post r u → va_P D vwCl (xSet ws is (w1 u)) H1 → va_D A (xSet ws is (w1 u)) → va_S A s.heap H1 locs1 → W p l e R s m args below meth c H1 locs1 cells slots Q (F0 m (pc + 3) ls (.int r :: rest))) : W p l e R s m args below meth c H locs cells slots Q (F0 m pc ls st0) := by
  have hcw : CallW R s args own C idx y bytes maxL ret (Cond.code y bytes maxL ret :: wsL_law) rm 0 0 n := ⟨xk_cb hts hB hlink hR hrm, hts _ (List.mem_cons_of_mem _ hinst), hts _ (List.mem_cons_of_mem _ hsel)⟩
  exact xk_ci (va_runV ⟨hx, hb, hml, hown, hts⟩ (hM H.size) hcw ⟨xPre_blind, va_recv hK hP hc he, xPre_of hK hN hZ hP hD hS hA is hnd hC⟩ rfl hn hsz hst (lv_room hrest) hdg hcs) hP hD hS hA is hC ha kk
theorem xk_Vv (hx : p.tables.exec = Jvm.exec) (hb : c.code = cc) (hml : c.maxLocals = nL) (hown : s.vm.findClass own = some m.cls) (hts : ∀ w ∈ c0 :: wsL_law, w.before args s = true) (hK : va_K D vwCl tys s) (hN : xN s) (hZ : xZ A s) (hP : va_P D vwCl ws H) (hD : va_D A ws) (hS : va_S A s.heap H locs) (hA : ∀ q, s.heap.size ≤ q → A q)
    {b : Addr} {C : String} {T : u_T} {N : Nat} {post : S → Prop} {w1 : S → va_W} (hB : xMB y bytes maxL ret C n) (hlink : Cond.methodLink own idx y ∈ wsL_law) (hinst : Cond.instanceMethod y ∈ wsL_law) (hsel : Cond.selects C y y ∈ wsL_law) (hM : xMv l y bytes maxL ret rm D tys (.ref b :: As) wc post w1) (is : List Nat) (q0 ci : Nat) {fs : List Value} (he : ws[q0]? = some (b, .inr (ci, fs))) (hc : vwCl[ci]? = some (C, T, N))
    (hnd : va_nd is = true) (hC : is.map (fun i => ws[i]?) = wc.map some) (ha : ∀ u, (w1 u).map Prod.fst = wc.map Prod.fst) (hR : rm.frames + 1 ≤ R.frames ∧ 8 + (maxL + 11) + rm.locals ≤ R.locals) (hrm : rm.cells = 0 ∧ rm.slots = 0) (hn : As.length = n) (hsz : ls.size = nL) (hst : st0 = As.reverse ++ .ref b :: rest) (hrest : (rest.map fun v => v.category).sum ≤ 8) (hdg : decode cc pc = .ok (.invokevirtual idx, 3)) (hcs : cells ≤ R.cells ∧ slots ≤ R.slots)
    (kk : ∀ (u : S) (H1 : Heap) (locs1 : List Loc), post u → va_P D vwCl (xSet ws is (w1 u)) H1 → va_D A (xSet ws is (w1 u)) → va_S A s.heap H1 locs1 → W p l e R s m args below meth c H1 locs1 cells slots Q (F0 m (pc + 3) ls rest)) : W p l e R s m args below meth c H locs cells slots Q (F0 m pc ls st0) := by
  have hcw : CallW R s args own C idx y bytes maxL ret (Cond.code y bytes maxL ret :: wsL_law) rm 0 0 n := ⟨xk_cb hts hB hlink hR hrm, hts _ (List.mem_cons_of_mem _ hinst), hts _ (List.mem_cons_of_mem _ hsel)⟩
  exact xk_cv (va_runV ⟨hx, hb, hml, hown, hts⟩ (hM H.size) hcw ⟨xPre_blind, va_recv hK hP hc he, xPre_of hK hN hZ hP hD hS hA is hnd hC⟩ rfl hn hsz hst (lv_room hrest) hdg hcs) hP hD hS hA is hC ha kk
/-- a static call that answers an int -/
theorem xk_Si (hx : p.tables.exec = Jvm.exec) (hb : c.code = cc) (hml : c.maxLocals = nL) (hown : s.vm.findClass own = some m.cls) (hts : ∀ w ∈ c0 :: wsL_law, w.before args s = true) (hK : va_K D vwCl tys s) (hN : xN s) (hZ : xZ A s) (hP : va_P D vwCl ws H) (hD : va_D A ws) (hS : va_S A s.heap H locs) (hA : ∀ q, s.heap.size ≤ q → A q)
    {C : String} {post : Int32 → S → Prop} {w1 : S → va_W} (hB : xMB y bytes maxL ret C n) (hlink : Cond.methodLink own idx y ∈ wsL_law) (hstat : Cond.static y ∈ wsL_law) (hM : xMi l y bytes maxL ret rm D tys As wc post w1) (is : List Nat)
    (hnd : va_nd is = true) (hC : is.map (fun i => ws[i]?) = wc.map some) (ha : ∀ u, (w1 u).map Prod.fst = wc.map Prod.fst) (hR : rm.frames + 1 ≤ R.frames ∧ 8 + (maxL + 11) + rm.locals ≤ R.locals) (hrm : rm.cells = 0 ∧ rm.slots = 0) (hn : As.length = n) (hsz : ls.size = nL) (hst : st0 = As.reverse ++ rest) (hrest : (rest.map fun v => v.category).sum ≤ 8) (hdg : decode cc pc = .ok (.invokestatic idx, 3)) (hcs : cells ≤ R.cells ∧ slots ≤ R.slots)
    (kk : ∀ (r : Int32) (u : S) (H1 : Heap) (locs1 : List Loc), post r u → va_P D vwCl (xSet ws is (w1 u)) H1 → va_D A (xSet ws is (w1 u)) → va_S A s.heap H1 locs1 → W p l e R s m args below meth c H1 locs1 cells slots Q (F0 m (pc + 3) ls (.int r :: rest))) : W p l e R s m args below meth c H locs cells slots Q (F0 m pc ls st0) :=
  xk_ci (va_runS ⟨hx, hb, hml, hown, hts⟩ (hM H.size) ⟨xk_cb hts hB hlink hR hrm, hts _ (List.mem_cons_of_mem _ hstat)⟩ ⟨xPre_blind, xPre_of hK hN hZ hP hD hS hA is hnd hC⟩ rfl hn hsz hst (lv_room hrest) hdg hcs) hP hD hS hA is hC ha kk
theorem xk_Sv (hx : p.tables.exec = Jvm.exec) (hb : c.code = cc) (hml : c.maxLocals = nL) (hown : s.vm.findClass own = some m.cls) (hts : ∀ w ∈ c0 :: wsL_law, w.before args s = true) (hK : va_K D vwCl tys s) (hN : xN s) (hZ : xZ A s) (hP : va_P D vwCl ws H) (hD : va_D A ws) (hS : va_S A s.heap H locs) (hA : ∀ q, s.heap.size ≤ q → A q)
    {C : String} {post : S → Prop} {w1 : S → va_W} (hB : xMB y bytes maxL ret C n) (hlink : Cond.methodLink own idx y ∈ wsL_law) (hstat : Cond.static y ∈ wsL_law) (hM : xMv l y bytes maxL ret rm D tys As wc post w1) (is : List Nat)
    (hnd : va_nd is = true) (hC : is.map (fun i => ws[i]?) = wc.map some) (ha : ∀ u, (w1 u).map Prod.fst = wc.map Prod.fst) (hR : rm.frames + 1 ≤ R.frames ∧ 8 + (maxL + 11) + rm.locals ≤ R.locals) (hrm : rm.cells = 0 ∧ rm.slots = 0) (hn : As.length = n) (hsz : ls.size = nL) (hst : st0 = As.reverse ++ rest) (hrest : (rest.map fun v => v.category).sum ≤ 8) (hdg : decode cc pc = .ok (.invokestatic idx, 3)) (hcs : cells ≤ R.cells ∧ slots ≤ R.slots)
    (kk : ∀ (u : S) (H1 : Heap) (locs1 : List Loc), post u → va_P D vwCl (xSet ws is (w1 u)) H1 → va_D A (xSet ws is (w1 u)) → va_S A s.heap H1 locs1 → W p l e R s m args below meth c H1 locs1 cells slots Q (F0 m (pc + 3) ls rest)) : W p l e R s m args below meth c H locs cells slots Q (F0 m pc ls st0) :=
  xk_cv (va_runS ⟨hx, hb, hml, hown, hts⟩ (hM H.size) ⟨xk_cb hts hB hlink hR hrm, hts _ (List.mem_cons_of_mem _ hstat)⟩ ⟨xPre_blind, xPre_of hK hN hZ hP hD hS hA is hnd hC⟩ rfl hn hsz hst (lv_room hrest) hdg hcs) hP hD hS hA is hC ha kk
/-- the ends -/
theorem xk_reti {post : Int32 → S → Prop} {w1 : S → va_W} {v : Int32} (u : S) (hx : p.tables.exec = Jvm.exec) (hb : c.code = cc) (hr : meth.sig.returnType = some .int) (hlocks : meth.locks = false) (hP : va_P D vwCl (w1 u) H) (hp : post v u) (hS : va_S A s.heap H locs) (hdg : decode cc pc = .ok (.ireturn, 1)) (hQ : Q = MQ below (va_Qi post (fun u t => va_P D vwCl (w1 u) t.heap) A) args s 0 0 A) : W p l e R s m args below meth c H locs 0 0 Q (F0 m pc ls [.int v]) := by
  rw [hQ]
  exact
  W.iret hx hb hr (fun t ht _ => ⟨⟨v, u, rfl, hp, (show va_P D vwCl (w1 u) t.heap by rw [ht]; exact hP)⟩, hS.F ht⟩) hS.2.2 hdg hlocks
theorem xk_retz {post : Int32 → S → Prop} {w1 : S → va_W} {v : Int32} (u : S) (hx : p.tables.exec = Jvm.exec) (hb : c.code = cc) (hr : meth.sig.returnType = some .boolean) (hlocks : meth.locks = false) (hn : v = 0 ∨ v = 1) (hP : va_P D vwCl (w1 u) H) (hp : post v u) (hS : va_S A s.heap H locs) (hdg : decode cc pc = .ok (.ireturn, 1)) (hQ : Q = MQ below (va_Qi post (fun u t => va_P D vwCl (w1 u) t.heap) A) args s 0 0 A) : W p l e R s m args below meth c H locs 0 0 Q (F0 m pc ls [.int v]) := by
  rw [hQ]
  exact
  W.zret hx hb hr (by rcases hn with rfl | rfl <;> rfl) (fun t ht _ => ⟨⟨v, u, rfl, hp, (show va_P D vwCl (w1 u) t.heap by rw [ht]; exact hP)⟩, hS.F ht⟩) hS.2.2 hdg hlocks
theorem xk_retv {post : S → Prop} {w1 : S → va_W} (u : S) (hx : p.tables.exec = Jvm.exec) (hb : c.code = cc) (hr : meth.sig.returnType = none) (hlocks : meth.locks = false) (hP : va_P D vwCl (w1 u) H) (hp : post u) (hS : va_S A s.heap H locs) (hdg : decode cc pc = .ok (.return_, 1)) (hQ : Q = MQ below (va_Qv post (fun u t => va_P D vwCl (w1 u) t.heap) A) args s 0 0 A) : W p l e R s m args below meth c H locs 0 0 Q (F0 m pc ls []) := by
  rw [hQ]
  exact
  W.vret hx hb hr (fun t ht _ => ⟨⟨u, rfl, hp, (show va_P D vwCl (w1 u) t.heap by rw [ht]; exact hP)⟩, hS.F ht⟩) hS.2.2 hdg hlocks
end XC
theorem xk_P {D : va_G} {cl : List vw_C} {ws ws' : va_W} {H : Heap} (h : va_P D cl ws H) (e : ws = ws') : va_P D cl ws' H := e ▸ h
theorem xk_D {A : Nat → Prop} {ws ws' : va_W} (h : va_D A ws) (e : ws = ws') : va_D A ws' := e ▸ h
/-- an array's contents, told by another function that is the same within its length -/
theorem xk_arr {D : va_G} {cl : List vw_C} {ws : va_W} {H : Heap} (hP : va_P D cl ws H) (k : Nat) {a N : Nat} {cA : ClassId} {f : Nat → Int32} (g : Nat → Int32) (hk : ws[k]? = some (a, .inl (cA, N, .inl f))) (h : ∀ j, j < N → f j = g j) : va_P D cl (ws.set k (a, .inl (cA, N, .inl g))) H := by
  intro i q hi
  by_cases e : i = k
  · subst e
    rw [List.getElem?_set_self (List.getElem?_eq_some_iff.mp hk).1] at hi
    cases hi
    have h1 : H[a]? = some (vp_cell cA (N, .inl f)) := hP i _ hk
    have h2 : (vp_cell cA (N, .inl f)) = vp_cell cA (N, .inl g) := by
      show arrCell cA N f = arrCell cA N g
      unfold arrCell arrSlots
      congr 1
      apply Array.ext
      · simp
      · intro i h1 h2
        simp only [Array.getElem_ofFn]
        rw [h i (by simpa using h1)]
    show H[a]? = some (vp_cell cA (N, .inl g))
    rw [h1, h2]
  · rw [List.getElem?_set_ne (Ne.symm e)] at hi
    exact hP i q hi
theorem xk_arrD {A : Nat → Prop} {ws : va_W} (hD : va_D A ws) {k a : Nat} {e e' : va_E} (hk : ws[k]? = some (a, e)) : va_D A (ws.set k (a, e')) := hD.set hk
/-! numbers: an int's value as an integer -/
theorem xi_add {x y : Int32} {a b : Int} (hx : x.toInt = a) (hy : y.toInt = b) (h1 : -2147483648 ≤ a + b) (h2 : a + b ≤ 2147483647) : (x + y).toInt = a + b := by
  rw [Int32.toInt_add, hx, hy]; exact Int.bmod_eq_of_le (by omega) (by omega)
theorem xi_sub {x y : Int32} {a b : Int} (hx : x.toInt = a) (hy : y.toInt = b) (h1 : -2147483648 ≤ a - b) (h2 : a - b ≤ 2147483647) : (x - y).toInt = a - b := by
  rw [Int32.toInt_sub, hx, hy]; exact Int.bmod_eq_of_le (by omega) (by omega)
theorem xi_mul {x y : Int32} {a b : Int} (hx : x.toInt = a) (hy : y.toInt = b) (h1 : -2147483648 ≤ a * b) (h2 : a * b ≤ 2147483647) : (x * y).toInt = a * b := by
  rw [Int32.toInt_mul, hx, hy]; exact Int.bmod_eq_of_le (by omega) (by omega)
theorem xi_lt {x y : Int32} {a b : Int} (hx : x.toInt = a) (hy : y.toInt = b) (h : x < y) : a < b := by rw [← hx, ← hy]; exact Int32.lt_iff_toInt_lt.mp h
theorem xi_le {x y : Int32} {a b : Int} (hx : x.toInt = a) (hy : y.toInt = b) (h : x ≤ y) : a ≤ b := by rw [← hx, ← hy]; exact Int32.le_iff_toInt_le.mp h
theorem xi_nlt {x y : Int32} {a b : Int} (hx : x.toInt = a) (hy : y.toInt = b) (h : ¬ x < y) : b ≤ a := by
  have := mt Int32.lt_iff_toInt_lt.mpr h
  omega
theorem xi_nle {x y : Int32} {a b : Int} (hx : x.toInt = a) (hy : y.toInt = b) (h : ¬ x ≤ y) : b < a := by
  have := mt Int32.le_iff_toInt_le.mpr h
  omega
theorem xi_eq {x y : Int32} {a b : Int} (hx : x.toInt = a) (hy : y.toInt = b) (h : x = y) : a = b := by rw [← hx, ← hy, h]
theorem xi_ne {x y : Int32} {a b : Int} (hx : x.toInt = a) (hy : y.toInt = b) (h : ¬ x = y) : ¬ a = b := fun z => h (Int32.toInt_inj.mp (by rw [hx, hy, z]))
theorem xi_lti {x y : Int32} {a b : Int} (hx : x.toInt = a) (hy : y.toInt = b) : x < y ↔ a < b := by rw [Int32.lt_iff_toInt_lt, hx, hy]
theorem xi_lei {x y : Int32} {a b : Int} (hx : x.toInt = a) (hy : y.toInt = b) : x ≤ y ↔ a ≤ b := by rw [Int32.le_iff_toInt_le, hx, hy]
theorem xi_eqi {x y : Int32} {a b : Int} (hx : x.toInt = a) (hy : y.toInt = b) : x = y ↔ a = b := by rw [← Int32.toInt_inj, hx, hy]
theorem xi_cl (x : Int32) : x.toNatClampNeg = x.toInt.toNat := rfl
theorem xi_in {x : Int32} {n : Nat} (h0 : 0 ≤ x.toInt) (h1 : x.toInt < n) : vp_in x n := vp_in_iff.mpr ⟨h0, h1⟩
theorem xi_div {x y : Int32} {a b : Int} (hx : x.toInt = a) (hy : y.toInt = b) (h0 : 0 ≤ a) (h1 : 0 < b) : (x / y).toInt = a / b := by
  rw [Int32.toInt_div, hx, hy, Int.tdiv_eq_ediv_of_nonneg h0]
  have h2 := x.toInt_lt
  have h3 : a / b ≤ a := Int.ediv_le_self b h0
  have h4 : 0 ≤ a / b := Int.ediv_nonneg h0 (by omega)
  exact Int.bmod_eq_of_le (by omega) (by omega)
theorem xi_rem {x y : Int32} {a b : Int} (hx : x.toInt = a) (hy : y.toInt = b) (h0 : 0 ≤ a) (h1 : 0 < b) : (x - x / y * y).toInt = a % b := by
  rw [rem_toInt, hx, hy, Int.tmod_eq_emod_of_nonneg h0]
theorem xi_ext {x y : Int32} (h : x.toInt = y.toInt) : x = y := Int32.toInt_inj.mp h
theorem xi_z {x : Int32} (h : ¬ x = 0) (h2 : x = 0 ∨ x = 1) : x = 1 := h2.resolve_left h
theorem xk_rd {α : Type} {f : Nat → α} {i : Int32} {k : Nat} (h : i.toInt.toNat = k) : f i.toNatClampNeg = f k := by rw [← h]; rfl
theorem xk_ix {i : Int32} {k : Nat} (h : i.toInt.toNat = k) : i.toNatClampNeg = k := h
abbrev xTy (cI cZ cS : ClassId) : List (ClassId × FieldType) := [(cI, .int), (cZ, .boolean), (cS, .object "MarchMetres$State")]
theorem xi_lo (x : Int32) : -2147483648 ≤ x.toInt := x.le_toInt
theorem xi_hi (x : Int32) : x.toInt ≤ 2147483647 := by have := x.toInt_lt; omega
theorem xin0 {c0 : Cond} : ∀ w ∈ wsX00, w ∈ c0 :: wsL_law := fun w h => List.mem_cons_of_mem _ (inlX0 w h)
theorem xin1 {c0 : Cond} : ∀ w ∈ wsX10, w ∈ c0 :: wsL_law := fun w h => List.mem_cons_of_mem _ (inlX1 w h)
theorem xin2 {c0 : Cond} : ∀ w ∈ wsX20, w ∈ c0 :: wsL_law := fun w h => List.mem_cons_of_mem _ (inlX2 w h)
theorem xin3 {c0 : Cond} : ∀ w ∈ wsX30, w ∈ c0 :: wsL_law := fun w h => List.mem_cons_of_mem _ (inlX3 w h)
theorem xin4 {c0 : Cond} : ∀ w ∈ wsX40, w ∈ c0 :: wsL_law := fun w h => List.mem_cons_of_mem _ (inlX4 w h)
theorem xin5 {c0 : Cond} : ∀ w ∈ wsX50, w ∈ c0 :: wsL_law := fun w h => List.mem_cons_of_mem _ (inlX5 w h)
theorem xin6 {c0 : Cond} : ∀ w ∈ wsX60, w ∈ c0 :: wsL_law := fun w h => List.mem_cons_of_mem _ (inlX6 w h)
theorem xin7 {c0 : Cond} : ∀ w ∈ wsX70, w ∈ c0 :: wsL_law := fun w h => List.mem_cons_of_mem _ (inlX7 w h)
theorem xin8 {c0 : Cond} : ∀ w ∈ wsX80, w ∈ c0 :: wsL_law := fun w h => List.mem_cons_of_mem _ (inlX8 w h)
theorem mb_J9_floorMod_7cf53 : xMB yJ9_floorMod_7cf53 cJ9_floorMod_7cf53 3 (some .int) RJ9 2 := ⟨mw_2_20, mw_1_10, rfl, by decide +kernel, by decide +kernel, by decide +kernel⟩
theorem mb_X0_init : xMB yX0_init cX0_init 2 none RX0 0 := ⟨mw_1_169, mw_1_7, rfl, by decide +kernel, by decide +kernel, by decide +kernel⟩
theorem mb_X0_placeOf : xMB yX0_placeOf cX0_placeOf 2 (some .int) RX0 1 := ⟨mw_2_17, mw_1_7, rfl, by decide +kernel, by decide +kernel, by decide +kernel⟩
theorem mb_X0_record : xMB yX0_record cX0_record 3 none RX0 1 := ⟨mw_2_13, mw_1_7, rfl, by decide +kernel, by decide +kernel, by decide +kernel⟩
theorem mb_X0_takeBackInto : xMB yX0_takeBackInto cX0_takeBackInto 3 none RX0 1 := ⟨mw_3_62, mw_1_7, rfl, by decide +kernel, by decide +kernel, by decide +kernel⟩
theorem mb_X1_copyFrom : xMB yX1_copyFrom cX1_copyFrom 2 none RX1 1 := ⟨mw_2_40, mw_1_6, rfl, by decide +kernel, by decide +kernel, by decide +kernel⟩
theorem mb_X1_goOn : xMB yX1_goOn cX1_goOn 6 none RX1 3 := ⟨mw_2_142, mw_1_6, rfl, by decide +kernel, by decide +kernel, by decide +kernel⟩
theorem mb_X1_goUntilWalked : xMB yX1_goUntilWalked cX1_goUntilWalked 6 none RX1 4 := ⟨mw_2_137, mw_1_6, rfl, by decide +kernel, by decide +kernel, by decide +kernel⟩
theorem mb_X1_init : xMB yX1_init cX1_init 1 none RX1 0 := ⟨mw_1_85, mw_1_6, rfl, by decide +kernel, by decide +kernel, by decide +kernel⟩
theorem mb_X1_isAtEndOf : xMB yX1_isAtEndOf cX1_isAtEndOf 2 (some .boolean) RX1 1 := ⟨mw_2_133, mw_1_6, rfl, by decide +kernel, by decide +kernel, by decide +kernel⟩
theorem mb_X1_singOn : xMB yX1_singOn cX1_singOn 3 none RX1 2 := ⟨mw_2_166, mw_1_6, rfl, by decide +kernel, by decide +kernel, by decide +kernel⟩
theorem mb_X1_startAnew : xMB yX1_startAnew cX1_startAnew 2 none RX1 1 := ⟨mw_1_216, mw_1_6, rfl, by decide +kernel, by decide +kernel, by decide +kernel⟩
theorem mb_X1_stepOn : xMB yX1_stepOn cX1_stepOn 3 none RX1 2 := ⟨mw_2_157, mw_1_6, rfl, by decide +kernel, by decide +kernel, by decide +kernel⟩
theorem mb_X2_append : xMB yX2_append cX2_append 2 none RX2 1 := ⟨mw_3_46, mw_1_8, rfl, by decide +kernel, by decide +kernel, by decide +kernel⟩
theorem mb_X2_beatsMeantBy : xMB yX2_beatsMeantBy cX2_beatsMeantBy 1 (some .int) RX2 1 := ⟨mw_2_56, mw_1_8, rfl, by decide +kernel, by decide +kernel, by decide +kernel⟩
theorem mb_X2_charactersIn : xMB yX2_charactersIn cX2_charactersIn 6 (some .int) RX2 1 := ⟨mw_3_37, mw_1_8, rfl, by decide +kernel, by decide +kernel, by decide +kernel⟩
theorem mb_X2_codeIn : xMB yX2_codeIn cX2_codeIn 3 (some .int) RX2 2 := ⟨mw_3_40, mw_1_8, rfl, by decide +kernel, by decide +kernel, by decide +kernel⟩
theorem mb_X2_empty : xMB yX2_empty cX2_empty 1 none RX2 0 := ⟨mw_2_92, mw_1_8, rfl, by decide +kernel, by decide +kernel, by decide +kernel⟩
theorem mb_X2_faultIndex : xMB yX2_faultIndex cX2_faultIndex 6 (some .int) RX2 0 := ⟨mw_2_53, mw_1_8, rfl, by decide +kernel, by decide +kernel, by decide +kernel⟩
theorem mb_X2_init : xMB yX2_init cX2_init 1 none RX2 0 := ⟨mw_1_188, mw_1_8, rfl, by decide +kernel, by decide +kernel, by decide +kernel⟩
theorem mb_X2_writeInto : xMB yX2_writeInto cX2_writeInto 4 none RX2 1 := ⟨mw_2_60, mw_1_8, rfl, by decide +kernel, by decide +kernel, by decide +kernel⟩
theorem mb_X3_add : xMB yX3_add cX3_add 4 none RX3 3 := ⟨mw_2_100, mw_1_5, rfl, by decide +kernel, by decide +kernel, by decide +kernel⟩
theorem mb_X3_allSteps : xMB yX3_allSteps cX3_allSteps 3 (some .int) RX3 0 := ⟨mw_2_232, mw_1_5, rfl, by decide +kernel, by decide +kernel, by decide +kernel⟩
theorem mb_X3_beatsToSing : xMB yX3_beatsToSing cX3_beatsToSing 4 (some .int) RX3 2 := ⟨mw_2_208, mw_1_5, rfl, by decide +kernel, by decide +kernel, by decide +kernel⟩
theorem mb_X3_copyFrom : xMB yX3_copyFrom cX3_copyFrom 3 none RX3 1 := ⟨mw_2_36, mw_1_5, rfl, by decide +kernel, by decide +kernel, by decide +kernel⟩
theorem mb_X3_has : xMB yX3_has cX3_has 2 (some .boolean) RX3 1 := ⟨mw_2_108, mw_1_5, rfl, by decide +kernel, by decide +kernel, by decide +kernel⟩
theorem mb_X3_init : xMB yX3_init cX3_init 1 none RX3 0 := ⟨mw_1_64, mw_1_5, rfl, by decide +kernel, by decide +kernel, by decide +kernel⟩
theorem mb_X3_isMuddy : xMB yX3_isMuddy cX3_isMuddy 2 (some .boolean) RX3 1 := ⟨mw_2_161, mw_1_5, rfl, by decide +kernel, by decide +kernel, by decide +kernel⟩
theorem mb_X3_remove : xMB yX3_remove cX3_remove 3 none RX3 1 := ⟨mw_2_117, mw_1_5, rfl, by decide +kernel, by decide +kernel, by decide +kernel⟩
theorem mb_X3_slopeOf : xMB yX3_slopeOf cX3_slopeOf 2 (some .int) RX3 1 := ⟨mw_2_146, mw_1_5, rfl, by decide +kernel, by decide +kernel, by decide +kernel⟩
theorem mb_X3_stepsOf : xMB yX3_stepsOf cX3_stepsOf 2 (some .int) RX3 1 := ⟨mw_2_112, mw_1_5, rfl, by decide +kernel, by decide +kernel, by decide +kernel⟩
theorem mb_X4_allows : xMB yX4_allows cX4_allows 2 (some .boolean) RX4 2 := ⟨mw_2_5, mw_1_3, rfl, by decide +kernel, by decide +kernel, by decide +kernel⟩
theorem mb_X4_change : xMB yX4_change cX4_change 3 none RX4 2 := ⟨mw_2_45, mw_1_3, rfl, by decide +kernel, by decide +kernel, by decide +kernel⟩
theorem mb_X4_copyFrom : xMB yX4_copyFrom cX4_copyFrom 3 none RX4 1 := ⟨mw_2_28, mw_1_3, rfl, by decide +kernel, by decide +kernel, by decide +kernel⟩
theorem mb_X4_has : xMB yX4_has cX4_has 1 (some .boolean) RX4 1 := ⟨mw_1_212, mw_1_3, rfl, by decide +kernel, by decide +kernel, by decide +kernel⟩
theorem mb_X4_init : xMB yX4_init cX4_init 2 none RX4 0 := ⟨mw_1_29, mw_1_3, rfl, by decide +kernel, by decide +kernel, by decide +kernel⟩
theorem mb_X4_valueOf : xMB yX4_valueOf cX4_valueOf 2 (some .int) RX4 1 := ⟨mw_1_209, mw_1_3, rfl, by decide +kernel, by decide +kernel, by decide +kernel⟩
theorem mb_X5_addFoot : xMB yX5_addFoot cX5_addFoot 4 none RX5 1 := ⟨mw_2_88, mw_1_4, rfl, by decide +kernel, by decide +kernel, by decide +kernel⟩
theorem mb_X5_addLine : xMB yX5_addLine cX5_addLine 1 none RX5 0 := ⟨mw_2_68, mw_1_4, rfl, by decide +kernel, by decide +kernel, by decide +kernel⟩
theorem mb_X5_allBeats : xMB yX5_allBeats cX5_allBeats 3 (some .int) RX5 0 := ⟨mw_2_222, mw_1_4, rfl, by decide +kernel, by decide +kernel, by decide +kernel⟩
theorem mb_X5_allMarks : xMB yX5_allMarks cX5_allMarks 3 (some .int) RX5 0 := ⟨mw_2_227, mw_1_4, rfl, by decide +kernel, by decide +kernel, by decide +kernel⟩
theorem mb_X5_beatsOf : xMB yX5_beatsOf cX5_beatsOf 3 (some .int) RX5 2 := ⟨mw_2_170, mw_1_4, rfl, by decide +kernel, by decide +kernel, by decide +kernel⟩
theorem mb_X5_beatsOfLine : xMB yX5_beatsOfLine cX5_beatsOfLine 4 (some .int) RX5 1 := ⟨mw_2_184, mw_1_4, rfl, by decide +kernel, by decide +kernel, by decide +kernel⟩
theorem mb_X5_clear : xMB yX5_clear cX5_clear 1 none RX5 0 := ⟨mw_2_64, mw_1_4, rfl, by decide +kernel, by decide +kernel, by decide +kernel⟩
theorem mb_X5_copyFrom : xMB yX5_copyFrom cX5_copyFrom 3 none RX5 1 := ⟨mw_2_32, mw_1_4, rfl, by decide +kernel, by decide +kernel, by decide +kernel⟩
theorem mb_X5_feetOf : xMB yX5_feetOf cX5_feetOf 2 (some .int) RX5 1 := ⟨mw_2_76, mw_1_4, rfl, by decide +kernel, by decide +kernel, by decide +kernel⟩
theorem mb_X5_hasFoot : xMB yX5_hasFoot cX5_hasFoot 3 (some .boolean) RX5 2 := ⟨mw_2_84, mw_1_4, rfl, by decide +kernel, by decide +kernel, by decide +kernel⟩
theorem mb_X5_hasLine : xMB yX5_hasLine cX5_hasLine 2 (some .boolean) RX5 1 := ⟨mw_2_80, mw_1_4, rfl, by decide +kernel, by decide +kernel, by decide +kernel⟩
theorem mb_X5_init : xMB yX5_init cX5_init 1 none RX5 0 := ⟨mw_1_42, mw_1_4, rfl, by decide +kernel, by decide +kernel, by decide +kernel⟩
theorem mb_X5_isMarked : xMB yX5_isMarked cX5_isMarked 3 (some .boolean) RX5 2 := ⟨mw_2_174, mw_1_4, rfl, by decide +kernel, by decide +kernel, by decide +kernel⟩
theorem mb_X5_markLastFoot : xMB yX5_markLastFoot cX5_markLastFoot 3 none RX5 0 := ⟨mw_2_72, mw_1_4, rfl, by decide +kernel, by decide +kernel, by decide +kernel⟩
theorem mb_X5_marksOfLine : xMB yX5_marksOfLine cX5_marksOfLine 4 (some .int) RX5 1 := ⟨mw_2_189, mw_1_4, rfl, by decide +kernel, by decide +kernel, by decide +kernel⟩
theorem mb_X6_copyFrom : xMB yX6_copyFrom cX6_copyFrom 2 none RX6 1 := ⟨mw_2_24, mw_1_2, rfl, by decide +kernel, by decide +kernel, by decide +kernel⟩
theorem mb_X6_init : xMB yX6_init cX6_init 1 none RX6 0 := ⟨mw_1_23, mw_1_2, rfl, by decide +kernel, by decide +kernel, by decide +kernel⟩
theorem mb_X6_startMarch : xMB yX6_startMarch cX6_startMarch 1 none RX6 0 := ⟨mw_1_205, mw_1_2, rfl, by decide +kernel, by decide +kernel, by decide +kernel⟩
theorem mb_X7_begin : xMB yX7_begin cX7_begin 2 (some .int) RX7 0 := ⟨mw_2_121, mw_1_1, rfl, by decide +kernel, by decide +kernel, by decide +kernel⟩
theorem mb_X7_bestPause : xMB yX7_bestPause cX7_bestPause 4 (some .int) RX7 0 := ⟨mw_3_30, mw_1_1, rfl, by decide +kernel, by decide +kernel, by decide +kernel⟩
theorem mb_X7_count : xMB yX7_count cX7_count 2 (some .int) RX7 1 := ⟨mw_2_218, mw_1_1, rfl, by decide +kernel, by decide +kernel, by decide +kernel⟩
theorem mb_X7_fault : xMB yX7_fault cX7_fault 1 (some .int) RX7 0 := ⟨mw_3_54, mw_1_1, rfl, by decide +kernel, by decide +kernel, by decide +kernel⟩
theorem mb_X7_foot : xMB yX7_foot cX7_foot 4 (some .int) RX7 3 := ⟨mw_2_195, mw_1_1, rfl, by decide +kernel, by decide +kernel, by decide +kernel⟩
theorem mb_X7_greatestShared : xMB yX7_greatestShared cX7_greatestShared 6 (some .int) RX7 2 := ⟨mw_3_15, mw_1_1, rfl, by decide +kernel, by decide +kernel, by decide +kernel⟩
theorem mb_X7_init : xMB yX7_init cX7_init 2 none RX7 0 := ⟨mw_1_15, mw_1_1, rfl, by decide +kernel, by decide +kernel, by decide +kernel⟩
theorem mb_X7_isReady : xMB yX7_isReady cX7_isReady 1 (some .boolean) RX7 0 := ⟨mw_2_129, mw_1_1, rfl, by decide +kernel, by decide +kernel, by decide +kernel⟩
theorem mb_X7_isSlot : xMB yX7_isSlot cX7_isSlot 1 (some .boolean) RX7 1 := ⟨mw_3_69, mw_1_1, rfl, by decide +kernel, by decide +kernel, by decide +kernel⟩
theorem mb_X7_leastBreath : xMB yX7_leastBreath cX7_leastBreath 3 (some .int) RX7 0 := ⟨mw_3_19, mw_1_1, rfl, by decide +kernel, by decide +kernel, by decide +kernel⟩
theorem mb_X7_line : xMB yX7_line cX7_line 5 (some .int) RX7 2 := ⟨mw_2_179, mw_1_1, rfl, by decide +kernel, by decide +kernel, by decide +kernel⟩
theorem mb_X7_march : xMB yX7_march cX7_march 3 (some .int) RX7 1 := ⟨mw_2_125, mw_1_1, rfl, by decide +kernel, by decide +kernel, by decide +kernel⟩
theorem mb_X7_meets : xMB yX7_meets cX7_meets 5 (some .int) RX7 2 := ⟨mw_3_6, mw_1_1, rfl, by decide +kernel, by decide +kernel, by decide +kernel⟩
theorem mb_X7_pave : xMB yX7_pave cX7_pave 4 (some .int) RX7 3 := ⟨mw_2_96, mw_1_1, rfl, by decide +kernel, by decide +kernel, by decide +kernel⟩
theorem mb_X7_put : xMB yX7_put cX7_put 5 (some .int) RX7 1 := ⟨mw_3_34, mw_1_1, rfl, by decide +kernel, by decide +kernel, by decide +kernel⟩
theorem mb_X7_read : xMB yX7_read cX7_read 1 (some .int) RX7 0 := ⟨mw_2_49, mw_1_1, rfl, by decide +kernel, by decide +kernel, by decide +kernel⟩
theorem mb_X7_restore : xMB yX7_restore cX7_restore 3 (some .int) RX7 1 := ⟨mw_3_74, mw_1_1, rfl, by decide +kernel, by decide +kernel, by decide +kernel⟩
theorem mb_X7_save : xMB yX7_save cX7_save 3 (some .int) RX7 1 := ⟨mw_3_66, mw_1_1, rfl, by decide +kernel, by decide +kernel, by decide +kernel⟩
theorem mb_X7_set : xMB yX7_set cX7_set 4 (some .int) RX7 2 := ⟨mw_2_2, mw_1_1, rfl, by decide +kernel, by decide +kernel, by decide +kernel⟩
theorem mb_X7_songsAtOnce : xMB yX7_songsAtOnce cX7_songsAtOnce 3 (some .int) RX7 2 := ⟨mw_3_12, mw_1_1, rfl, by decide +kernel, by decide +kernel, by decide +kernel⟩
theorem mb_X7_songsByCounting : xMB yX7_songsByCounting cX7_songsByCounting 3 (some .int) RX7 2 := ⟨mw_3_9, mw_1_1, rfl, by decide +kernel, by decide +kernel, by decide +kernel⟩
theorem mb_X7_stretch : xMB yX7_stretch cX7_stretch 3 (some .int) RX7 2 := ⟨mw_2_202, mw_1_1, rfl, by decide +kernel, by decide +kernel, by decide +kernel⟩
theorem mb_X7_tear : xMB yX7_tear cX7_tear 3 (some .int) RX7 1 := ⟨mw_2_104, mw_1_1, rfl, by decide +kernel, by decide +kernel, by decide +kernel⟩
theorem mb_X7_together : xMB yX7_together cX7_together 4 (some .int) RX7 0 := ⟨mw_3_1, mw_1_1, rfl, by decide +kernel, by decide +kernel, by decide +kernel⟩
theorem mb_X7_undo : xMB yX7_undo cX7_undo 1 (some .int) RX7 0 := ⟨mw_3_58, mw_1_1, rfl, by decide +kernel, by decide +kernel, by decide +kernel⟩
theorem mb_X7_untilWalked : xMB yX7_untilWalked cX7_untilWalked 2 (some .int) RX7 1 := ⟨mw_2_236, mw_1_1, rfl, by decide +kernel, by decide +kernel, by decide +kernel⟩
theorem mb_X7_walk : xMB yX7_walk cX7_walk 2 (some .int) RX7 1 := ⟨mw_2_214, mw_1_1, rfl, by decide +kernel, by decide +kernel, by decide +kernel⟩
theorem mb_X7_wipe : xMB yX7_wipe cX7_wipe 2 (some .int) RX7 0 := ⟨mw_3_50, mw_1_1, rfl, by decide +kernel, by decide +kernel, by decide +kernel⟩
theorem mb_X8_beat : xMB yX8_beat cX8_beat 2 none RX8 0 := ⟨mw_3_165, mw_1_9, rfl, by decide +kernel, by decide +kernel, by decide +kernel⟩
theorem mb_X8_beatsOf : xMB yX8_beatsOf cX8_beatsOf 3 (some .int) RX8 2 := ⟨mw_3_185, mw_1_9, rfl, by decide +kernel, by decide +kernel, by decide +kernel⟩
theorem mb_X8_begin : xMB yX8_begin cX8_begin 2 (some .int) RX8 0 := ⟨mw_3_193, mw_1_9, rfl, by decide +kernel, by decide +kernel, by decide +kernel⟩
theorem mb_X8_beginNow : xMB yX8_beginNow cX8_beginNow 2 none RX8 0 := ⟨mw_3_84, mw_1_9, rfl, by decide +kernel, by decide +kernel, by decide +kernel⟩
theorem mb_X8_bestPause : xMB yX8_bestPause cX8_bestPause 5 (some .int) RX8 0 := ⟨mw_4_77, mw_1_9, rfl, by decide +kernel, by decide +kernel, by decide +kernel⟩
theorem mb_X8_canMarch : xMB yX8_canMarch cX8_canMarch 1 (some .boolean) RX8 0 := ⟨mw_3_157, mw_1_9, rfl, by decide +kernel, by decide +kernel, by decide +kernel⟩
theorem mb_X8_climb : xMB yX8_climb cX8_climb 2 (some .int) RX8 0 := ⟨mw_3_169, mw_1_9, rfl, by decide +kernel, by decide +kernel, by decide +kernel⟩
theorem mb_X8_copyState : xMB yX8_copyState cX8_copyState 5 none RX8 4 := ⟨mw_3_134, mw_1_9, rfl, by decide +kernel, by decide +kernel, by decide +kernel⟩
theorem mb_X8_count : xMB yX8_count cX8_count 2 (some .int) RX8 1 := ⟨mw_4_41, mw_1_9, rfl, by decide +kernel, by decide +kernel, by decide +kernel⟩
theorem mb_X8_fault : xMB yX8_fault cX8_fault 1 (some .int) RX8 0 := ⟨mw_3_225, mw_1_9, rfl, by decide +kernel, by decide +kernel, by decide +kernel⟩
theorem mb_X8_foot : xMB yX8_foot cX8_foot 4 (some .int) RX8 3 := ⟨mw_4_25, mw_1_9, rfl, by decide +kernel, by decide +kernel, by decide +kernel⟩
theorem mb_X8_goOn : xMB yX8_goOn cX8_goOn 3 none RX8 0 := ⟨mw_3_181, mw_1_9, rfl, by decide +kernel, by decide +kernel, by decide +kernel⟩
theorem mb_X8_hasMark : xMB yX8_hasMark cX8_hasMark 3 (some .boolean) RX8 2 := ⟨mw_3_189, mw_1_9, rfl, by decide +kernel, by decide +kernel, by decide +kernel⟩
theorem mb_X8_in : xMB yX8_in cX8_in 3 (some .boolean) RX8 3 := ⟨mw_3_141, mw_1_9, rfl, by decide +kernel, by decide +kernel, by decide +kernel⟩
theorem mb_X8_init : xMB yX8_init cX8_init 1 none RX8 0 := ⟨mw_3_79, mw_1_9, rfl, by decide +kernel, by decide +kernel, by decide +kernel⟩
theorem mb_X8_isLine : xMB yX8_isLine cX8_isLine 2 (some .boolean) RX8 1 := ⟨mw_4_13, mw_1_9, rfl, by decide +kernel, by decide +kernel, by decide +kernel⟩
theorem mb_X8_isStretch : xMB yX8_isStretch cX8_isStretch 2 (some .boolean) RX8 1 := ⟨mw_3_212, mw_1_9, rfl, by decide +kernel, by decide +kernel, by decide +kernel⟩
theorem mb_X8_isValue : xMB yX8_isValue cX8_isValue 2 (some .boolean) RX8 2 := ⟨mw_3_200, mw_1_9, rfl, by decide +kernel, by decide +kernel, by decide +kernel⟩
theorem mb_X8_isWalkedAnew : xMB yX8_isWalkedAnew cX8_isWalkedAnew 1 (some .boolean) RX8 0 := ⟨mw_4_73, mw_1_9, rfl, by decide +kernel, by decide +kernel, by decide +kernel⟩
theorem mb_X8_leastBreath : xMB yX8_leastBreath cX8_leastBreath 3 (some .int) RX8 0 := ⟨mw_4_69, mw_1_9, rfl, by decide +kernel, by decide +kernel, by decide +kernel⟩
theorem mb_X8_line : xMB yX8_line cX8_line 3 (some .int) RX8 2 := ⟨mw_4_9, mw_1_9, rfl, by decide +kernel, by decide +kernel, by decide +kernel⟩
theorem mb_X8_march : xMB yX8_march cX8_march 2 (some .int) RX8 1 := ⟨mw_3_153, mw_1_9, rfl, by decide +kernel, by decide +kernel, by decide +kernel⟩
theorem mb_X8_marchNow : xMB yX8_marchNow cX8_marchNow 3 (some .int) RX8 1 := ⟨mw_3_161, mw_1_9, rfl, by decide +kernel, by decide +kernel, by decide +kernel⟩
theorem mb_X8_marksIn : xMB yX8_marksIn cX8_marksIn 4 (some .int) RX8 1 := ⟨mw_4_21, mw_1_9, rfl, by decide +kernel, by decide +kernel, by decide +kernel⟩
theorem mb_X8_marksInSong : xMB yX8_marksInSong cX8_marksInSong 3 (some .int) RX8 0 := ⟨mw_4_49, mw_1_9, rfl, by decide +kernel, by decide +kernel, by decide +kernel⟩
theorem mb_X8_meets : xMB yX8_meets cX8_meets 4 (some .int) RX8 2 := ⟨mw_4_65, mw_1_9, rfl, by decide +kernel, by decide +kernel, by decide +kernel⟩
theorem mb_X8_ofStretch : xMB yX8_ofStretch cX8_ofStretch 3 (some .int) RX8 2 := ⟨mw_3_173, mw_1_9, rfl, by decide +kernel, by decide +kernel, by decide +kernel⟩
theorem mb_X8_pave : xMB yX8_pave cX8_pave 5 (some .int) RX8 3 := ⟨mw_3_204, mw_1_9, rfl, by decide +kernel, by decide +kernel, by decide +kernel⟩
theorem mb_X8_put : xMB yX8_put cX8_put 7 (some .int) RX8 1 := ⟨mw_3_216, mw_1_9, rfl, by decide +kernel, by decide +kernel, by decide +kernel⟩
theorem mb_X8_read : xMB yX8_read cX8_read 3 (some .int) RX8 0 := ⟨mw_4_5, mw_1_9, rfl, by decide +kernel, by decide +kernel, by decide +kernel⟩
theorem mb_X8_readFoot : xMB yX8_readFoot cX8_readFoot 3 (some .boolean) RX8 0 := ⟨mw_3_237, mw_1_9, rfl, by decide +kernel, by decide +kernel, by decide +kernel⟩
theorem mb_X8_readLine : xMB yX8_readLine cX8_readLine 2 (some .boolean) RX8 0 := ⟨mw_3_233, mw_1_9, rfl, by decide +kernel, by decide +kernel, by decide +kernel⟩
theorem mb_X8_readPad : xMB yX8_readPad cX8_readPad 2 (some .boolean) RX8 0 := ⟨mw_3_229, mw_1_9, rfl, by decide +kernel, by decide +kernel, by decide +kernel⟩
theorem mb_X8_record : xMB yX8_record cX8_record 2 none RX8 0 := ⟨mw_3_149, mw_1_9, rfl, by decide +kernel, by decide +kernel, by decide +kernel⟩
theorem mb_X8_restore : xMB yX8_restore cX8_restore 2 (some .int) RX8 1 := ⟨mw_3_145, mw_1_9, rfl, by decide +kernel, by decide +kernel, by decide +kernel⟩
theorem mb_X8_save : xMB yX8_save cX8_save 2 (some .int) RX8 1 := ⟨mw_3_138, mw_1_9, rfl, by decide +kernel, by decide +kernel, by decide +kernel⟩
theorem mb_X8_set : xMB yX8_set cX8_set 4 (some .int) RX8 2 := ⟨mw_3_197, mw_1_9, rfl, by decide +kernel, by decide +kernel, by decide +kernel⟩
theorem mb_X8_step : xMB yX8_step cX8_step 1 none RX8 0 := ⟨mw_3_177, mw_1_9, rfl, by decide +kernel, by decide +kernel, by decide +kernel⟩
theorem mb_X8_stepsOfRoad : xMB yX8_stepsOfRoad cX8_stepsOfRoad 3 (some .int) RX8 0 := ⟨mw_4_53, mw_1_9, rfl, by decide +kernel, by decide +kernel, by decide +kernel⟩
theorem mb_X8_stretch : xMB yX8_stretch cX8_stretch 3 (some .int) RX8 2 := ⟨mw_4_29, mw_1_9, rfl, by decide +kernel, by decide +kernel, by decide +kernel⟩
theorem mb_X8_sungFor : xMB yX8_sungFor cX8_sungFor 5 (some .int) RX8 2 := ⟨mw_4_33, mw_1_9, rfl, by decide +kernel, by decide +kernel, by decide +kernel⟩
theorem mb_X8_sungIn : xMB yX8_sungIn cX8_sungIn 4 (some .int) RX8 1 := ⟨mw_4_17, mw_1_9, rfl, by decide +kernel, by decide +kernel, by decide +kernel⟩
theorem mb_X8_sungInSong : xMB yX8_sungInSong cX8_sungInSong 3 (some .int) RX8 0 := ⟨mw_4_45, mw_1_9, rfl, by decide +kernel, by decide +kernel, by decide +kernel⟩
theorem mb_X8_takes : xMB yX8_takes cX8_takes 3 (some .boolean) RX8 1 := ⟨mw_4_1, mw_1_9, rfl, by decide +kernel, by decide +kernel, by decide +kernel⟩
theorem mb_X8_tear : xMB yX8_tear cX8_tear 4 (some .int) RX8 1 := ⟨mw_3_208, mw_1_9, rfl, by decide +kernel, by decide +kernel, by decide +kernel⟩
theorem mb_X8_together : xMB yX8_together cX8_together 3 (some .int) RX8 0 := ⟨mw_4_61, mw_1_9, rfl, by decide +kernel, by decide +kernel, by decide +kernel⟩
theorem mb_X8_undo : xMB yX8_undo cX8_undo 1 (some .int) RX8 0 := ⟨mw_3_131, mw_1_9, rfl, by decide +kernel, by decide +kernel, by decide +kernel⟩
theorem mb_X8_untilWalked : xMB yX8_untilWalked cX8_untilWalked 4 (some .int) RX8 1 := ⟨mw_4_57, mw_1_9, rfl, by decide +kernel, by decide +kernel, by decide +kernel⟩
theorem mb_X8_walk : xMB yX8_walk cX8_walk 2 (some .int) RX8 1 := ⟨mw_4_37, mw_1_9, rfl, by decide +kernel, by decide +kernel, by decide +kernel⟩
theorem mb_X8_wipe : xMB yX8_wipe cX8_wipe 2 (some .int) RX8 0 := ⟨mw_3_221, mw_1_9, rfl, by decide +kernel, by decide +kernel, by decide +kernel⟩
end
section
/-! ===== the model's state as a function of places, and what its methods make of it ===== -/
def ofZ (z : Nat → Int32) (s w : Nat) : Int32 := z (3 * s + (138 + w))
def btZ (z : Nat → Int32) (l f : Nat) : Int32 := z (12 * l + f + 18) - z (12 * l + f + 18) / 10 * 10
abbrev mkZ (z : Nat → Int32) (l f : Nat) : Prop := 9 < (z (12 * l + f + 18)).toInt
abbrev canZ (z : Nat → Int32) : Prop := 0 < (z 6).toInt ∧ 0 < (z 7).toInt
def climbZ (z : Nat → Int32) : Int32 := if 0 < (ofZ z ((z 179).toInt.toNat) 1).toInt then ofZ z ((z 179).toInt.toNat) 1 else 0
abbrev atZ (z : Nat → Int32) : Prop := 0 ≤ (z 179).toInt ∧ (z 179).toInt ≤ 11
theorem upd_s (f : Nat → Int32) (k : Nat) (x : Int32) : upd f k x k = x := by simp [upd]
theorem upd_n (f : Nat → Int32) (k : Nat) (x : Int32) {j : Nat} (h : j ≠ k) : upd f k x j = f j := by simp [upd, h]
theorem ofZ_upd (z : Nat → Int32) {k : Nat} (x : Int32) {s w : Nat} (h : 3 * s + (138 + w) ≠ k) : ofZ (upd z k x) s w = ofZ z s w := by simp [ofZ, upd, h]
theorem btZ_upd (z : Nat → Int32) {k : Nat} (x : Int32) {l f : Nat} (h : 12 * l + f + 18 ≠ k) : btZ (upd z k x) l f = btZ z l f := by simp [btZ, upd, h]
theorem mkZ_upd (z : Nat → Int32) {k : Nat} (x : Int32) {l f : Nat} (h : 12 * l + f + 18 ≠ k) : mkZ (upd z k x) l f = mkZ z l f := by simp [mkZ, upd, h]
abbrev skipZ (z : Nat → Int32) : Prop := ofZ z ((z 179).toInt.toNat) 2 = 1 ∧ (z 189 + 1) - (z 189 + 1) / z 5 * z 5 = 0
abbrev fullZ (z : Nat → Int32) : Prop := z 180 + 1 = ofZ z ((z 179).toInt.toNat) 0
def stepZ (z : Nat → Int32) : Nat → Int32 :=
  if skipZ z then upd (upd z 189 (z 189 + 1)) 184 (z 184 + 1)
  else if fullZ z then upd (upd (upd (upd (upd (upd (upd z 189 (z 189 + 1)) 180 (z 180 + 1)) 183 (z 183 + 1)) 179 (z 179 + 1)) 180 0) 189 0) 188 (if z 179 + 1 = z 7 then 1 else 0)
  else upd (upd (upd z 189 (z 189 + 1)) 180 (z 180 + 1)) 183 (z 183 + 1)
/-- the song goes on by a beat -/
abbrev inFootZ (z : Nat → Int32) : Prop := (z 178 + 1).toInt < (btZ z ((z 176).toInt.toNat) ((z 177).toInt.toNat)).toInt
abbrev inLineZ (z : Nat → Int32) : Prop := ¬ z 177 + 1 = z (8 + (z 176).toInt.toNat)
def footEZ (z : Nat → Int32) : Nat → Int32 := upd (upd (upd (upd z 178 (z 178 + 1)) 178 0) 182 (if mkZ z ((z 176).toInt.toNat) ((z 177).toInt.toNat) then z 1 else 0)) 177 (z 177 + 1)
def lineEZ (z : Nat → Int32) : Nat → Int32 := if inLineZ z then footEZ z else upd (upd (footEZ z) 177 0) 176 (z 176 + 1)
/-- whether the song ends by this beat -/
abbrev songEZ (z : Nat → Int32) : Prop := lineEZ z 176 = z 6
def goOnZ (z : Nat → Int32) : Nat → Int32 :=
  if inFootZ z then upd z 178 (z 178 + 1)
  else if songEZ z then upd (upd (lineEZ z) 176 0) 186 (z 186 + 1) else lineEZ z
def needZ (z : Nat → Int32) : Int32 := 1 + climbZ z
abbrev gaspZ (z : Nat → Int32) : Prop := z 182 = 0 ∧ (z 181).toInt < (needZ z).toInt
def preZ (z : Nat → Int32) : Nat → Int32 := upd (if gaspZ z then upd (upd (upd z 174 (z 174 + 1)) 185 (z 185 + 1)) 182 (z 2) else upd z 174 (z 174 + 1)) 175 (z 175 + z 0)
abbrev restZ (z : Nat → Int32) : Prop := 0 < (preZ z 182).toInt
def restsZ (z : Nat → Int32) : Nat → Int32 := upd (upd (preZ z) 182 (preZ z 182 - 1)) 181 (if (preZ z 181 + preZ z 3).toInt < (preZ z 4).toInt then preZ z 181 + preZ z 3 else preZ z 4)
def singZ (z : Nat → Int32) : Nat → Int32 := upd (upd (upd (preZ z) 181 (preZ z 181 - needZ z)) 175 (preZ z 175 + climbZ z)) 187 (preZ z 187 + 1)
def beatZ (z : Nat → Int32) : Nat → Int32 := if restZ z then restsZ z else goOnZ (stepZ (singZ z))
abbrev endS (z : Nat → Int32) : Prop := ¬ restZ z ∧ ¬ skipZ (singZ z) ∧ fullZ (singZ z)
abbrev endG (z : Nat → Int32) : Prop := ¬ restZ z ∧ ¬ inFootZ (stepZ (singZ z)) ∧ songEZ (stepZ (singZ z))
def beginZ (z : Nat → Int32) : Nat → Int32 := fun k => if k = 181 then z 4 else if 174 ≤ k ∧ k < 190 then 0 else z k
theorem beginZ_loop (z : Nat → Int32) : upd (fun k => if 174 ≤ k ∧ k < 190 then 0 else z k) 181 (z 4) = beginZ z := by
  funext k
  simp only [upd, beginZ]
theorem beginZ_step (z : Nat → Int32) (n : Nat) (h : 174 ≤ n) : upd (fun k => if 174 ≤ k ∧ k < n then 0 else z k) n 0 = fun k => if 174 ≤ k ∧ k < n + 1 then 0 else z k := by
  funext k
  simp only [upd]
  by_cases h1 : k = n
  · subst h1; simp [h]
  · have : (174 ≤ k ∧ k < n + 1) ↔ (174 ≤ k ∧ k < n) := by omega
    simp only [h1, if_false, this]
theorem beginZ_0 (z : Nat → Int32) : (fun k => if 174 ≤ k ∧ k < 174 then (0 : Int32) else z k) = z := by
  funext k
  rw [if_neg (by omega)]
theorem cpy_0 {α : Type} (f g : Nat → α) (a b : Nat) : va_cpy f g a b 0 = g := by
  funext k
  simp only [va_cpy]
  rw [if_neg (by omega)]
theorem cpy_s (f g : Nat → Int32) (a b n : Nat) : upd (va_cpy f g a b n) (b + n) (f (a + n)) = va_cpy f g a b (n + 1) := by
  funext k
  simp only [upd, va_cpy]
  by_cases h1 : k = b + n
  · subst h1
    rw [if_pos rfl, if_pos (by omega), Nat.add_sub_cancel_left]
  · rw [if_neg h1]
    by_cases h2 : b ≤ k ∧ k < b + n
    · rw [if_pos h2, if_pos (by omega)]
    · rw [if_neg h2, if_neg (by omega)]
end
section
/-! ===== what a beat leaves ===== -/
theorem stepZ_o (z : Nat → Int32) {k : Nat} (h1 : k ≠ 179) (h2 : k ≠ 180) (h3 : k ≠ 183) (h4 : k ≠ 184) (h5 : k ≠ 188) (h6 : k ≠ 189) : stepZ z k = z k := by
  unfold stepZ
  split
  · simp [upd, *]
  · split <;> simp [upd, *]
theorem footEZ_o (z : Nat → Int32) {k : Nat} (h1 : k ≠ 177) (h2 : k ≠ 178) (h3 : k ≠ 182) : footEZ z k = z k := by
  unfold footEZ
  simp [upd, *]
theorem lineEZ_o (z : Nat → Int32) {k : Nat} (h0 : k ≠ 176) (h1 : k ≠ 177) (h2 : k ≠ 178) (h3 : k ≠ 182) : lineEZ z k = z k := by
  unfold lineEZ
  split
  · exact footEZ_o z h1 h2 h3
  · rw [upd_n _ _ _ h0, upd_n _ _ _ h1]; exact footEZ_o z h1 h2 h3
theorem goOnZ_o (z : Nat → Int32) {k : Nat} (h0 : k ≠ 176) (h1 : k ≠ 177) (h2 : k ≠ 178) (h3 : k ≠ 182) (h4 : k ≠ 186) : goOnZ z k = z k := by
  unfold goOnZ
  split
  · rw [upd_n _ _ _ h2]
  · split
    · rw [upd_n _ _ _ h4, upd_n _ _ _ h0]; exact lineEZ_o z h0 h1 h2 h3
    · exact lineEZ_o z h0 h1 h2 h3
theorem preZ_o (z : Nat → Int32) {k : Nat} (h0 : k ≠ 174) (h1 : k ≠ 175) (h2 : k ≠ 182) (h3 : k ≠ 185) : preZ z k = z k := by
  unfold preZ
  split <;> simp [upd, *]
theorem singZ_o (z : Nat → Int32) {k : Nat} (h0 : k ≠ 174) (h1 : k ≠ 175) (h2 : k ≠ 182) (h3 : k ≠ 185) (h4 : k ≠ 181) (h5 : k ≠ 187) : singZ z k = z k := by
  unfold singZ
  rw [upd_n _ _ _ h5, upd_n _ _ _ h1, upd_n _ _ _ h4, preZ_o z h0 h1 h2 h3]
theorem restsZ_o (z : Nat → Int32) {k : Nat} (h0 : k ≠ 174) (h1 : k ≠ 175) (h2 : k ≠ 182) (h3 : k ≠ 185) (h4 : k ≠ 181) : restsZ z k = z k := by
  unfold restsZ
  rw [upd_n _ _ _ h4, upd_n _ _ _ h2, preZ_o z h0 h1 h2 h3]
theorem beatZ_lo (z : Nat → Int32) {k : Nat} (h : k < 174) : beatZ z k = z k := by
  unfold beatZ
  split
  · exact restsZ_o z (by omega) (by omega) (by omega) (by omega) (by omega)
  · rw [goOnZ_o _ (by omega) (by omega) (by omega) (by omega) (by omega), stepZ_o _ (by omega) (by omega) (by omega) (by omega) (by omega) (by omega)]
    exact singZ_o z (by omega) (by omega) (by omega) (by omega) (by omega) (by omega)
theorem climbZ_upd (z : Nat → Int32) (ha : atZ z) {k : Nat} (x : Int32) (h : 174 ≤ k) (h2 : k ≠ 179) : climbZ (upd z k x) = climbZ z := by
  obtain ⟨ha1, ha2⟩ := ha
  unfold climbZ
  rw [upd_n _ _ _ (Ne.symm h2), ofZ_upd z x (by omega)]
theorem climbZ_pre (z : Nat → Int32) (ha : atZ z) : climbZ (preZ z) = climbZ z := by
  obtain ⟨ha1, ha2⟩ := ha
  have h1 : preZ z 179 = z 179 := preZ_o z (by omega) (by omega) (by omega) (by omega)
  have h2 : ∀ s : Nat, s ≤ 11 → ofZ (preZ z) s 1 = ofZ z s 1 := fun s hs => preZ_o z (by omega) (by omega) (by omega) (by omega)
  have h3 : ofZ (preZ z) (preZ z 179).toInt.toNat 1 = ofZ z (z 179).toInt.toNat 1 := by
    generalize hw : (preZ z 179).toInt.toNat = w
    rw [h1] at hw
    rw [hw]
    exact h2 w (by omega)
  unfold climbZ
  generalize ofZ (preZ z) (preZ z 179).toInt.toNat 1 = v at h3 ⊢
  rw [h3]
theorem ofZ_congr {z w : Nat → Int32} (h : ∀ k, k < 174 → w k = z k) {s v : Nat} (hs : s < 12) (hv : v < 3) : ofZ w s v = ofZ z s v := h _ (by omega)
theorem btZ_congr {z w : Nat → Int32} (h : ∀ k, k < 174 → w k = z k) {l f : Nat} (hl : l < 10) (hf : f < 12) : btZ w l f = btZ z l f := by
  unfold btZ
  rw [h _ (by omega)]
/-! ===== what holds of the model's state ===== -/
def SetOK (z : Nat → Int32) : Prop := (1 ≤ (z 0).toInt ∧ (z 0).toInt ≤ 9) ∧ (0 ≤ (z 1).toInt ∧ (z 1).toInt ≤ 9) ∧ (1 ≤ (z 2).toInt ∧ (z 2).toInt ≤ 9) ∧ (1 ≤ (z 3).toInt ∧ (z 3).toInt ≤ 20) ∧ (2 ≤ (z 5).toInt ∧ (z 5).toInt ≤ 9)
def footOK (x : Int32) : Prop := x.toInt = 2 ∨ x.toInt = 3 ∨ x.toInt = 4 ∨ x.toInt = 12 ∨ x.toInt = 13 ∨ x.toInt = 14
def SongOK (z : Nat → Int32) : Prop := (0 ≤ (z 6).toInt ∧ (z 6).toInt ≤ 10) ∧ ∀ l : Nat, (l : Int) < (z 6).toInt → (1 ≤ (z (8 + l)).toInt ∧ (z (8 + l)).toInt ≤ 12) ∧ ∀ f : Nat, (f : Int) < (z (8 + l)).toInt → footOK (z (12 * l + f + 18))
def RoadOK (z : Nat → Int32) : Prop := (0 ≤ (z 7).toInt ∧ (z 7).toInt ≤ 12) ∧ ∀ s : Nat, (s : Int) < (z 7).toInt → (1 ≤ (ofZ z s 0).toInt ∧ (ofZ z s 0).toInt ≤ 99) ∧ (-3 ≤ (ofZ z s 1).toInt ∧ (ofZ z s 1).toInt ≤ 3) ∧ (ofZ z s 2 = 0 ∨ ofZ z s 2 = 1)
/-- the place in the song -/
def SPos (z : Nat → Int32) : Prop := (0 ≤ (z 176).toInt ∧ (z 176).toInt ≤ 9) ∧ (0 ≤ (z 177).toInt ∧ (z 177).toInt ≤ 11) ∧ 0 ≤ (z 178).toInt ∧ (0 < (z 6).toInt → (z 176).toInt < (z 6).toInt ∧ (z 177).toInt < (z (8 + (z 176).toInt.toNat)).toInt ∧ (z 178).toInt < (btZ z ((z 176).toInt.toNat) ((z 177).toInt.toNat)).toInt)
/-- the place on the road -/
def RPos (z : Nat → Int32) : Prop := (0 ≤ (z 179).toInt ∧ (z 179).toInt ≤ (z 7).toInt) ∧ ((z 179).toInt < (z 7).toInt → 0 ≤ (z 180).toInt ∧ (z 180).toInt < (ofZ z ((z 179).toInt.toNat) 0).toInt) ∧ z 188 = if 0 < (z 7).toInt ∧ (z 179).toInt = (z 7).toInt then 1 else 0
def LOK (z : Nat → Int32) : Prop := 0 ≤ (z 182).toInt ∧ (z 182).toInt ≤ 9
def InvZ (z : Nat → Int32) : Prop := SetOK z ∧ SongOK z ∧ RoadOK z ∧ SPos z ∧ RPos z ∧ LOK z
theorem SetOK_c {z w : Nat → Int32} (h : ∀ k, k < 174 → w k = z k) (i : SetOK z) : SetOK w := by
  unfold SetOK at *
  rw [h 0 (by omega), h 1 (by omega), h 2 (by omega), h 3 (by omega), h 5 (by omega)]
  exact i
theorem SongOK_c {z w : Nat → Int32} (h : ∀ k, k < 174 → w k = z k) (i : SongOK z) : SongOK w := by
  obtain ⟨i1, i2⟩ := i
  unfold SongOK
  rw [h 6 (by omega)]
  refine ⟨i1, fun l hl => ?_⟩
  rw [h (8 + l) (by omega)]
  obtain ⟨j1, j2⟩ := i2 l hl
  refine ⟨j1, fun f hf => ?_⟩
  rw [h _ (by omega)]
  exact j2 f hf
theorem RoadOK_c {z w : Nat → Int32} (h : ∀ k, k < 174 → w k = z k) (i : RoadOK z) : RoadOK w := by
  obtain ⟨i1, i2⟩ := i
  unfold RoadOK
  rw [h 7 (by omega)]
  refine ⟨i1, fun s hs => ?_⟩
  rw [ofZ_congr h (by omega) (by omega), ofZ_congr h (by omega) (by omega), ofZ_congr h (by omega) (by omega)]
  exact i2 s hs
theorem rem10 {x : Int32} (h : footOK x) : 2 ≤ (x - x / 10 * 10).toInt ∧ (x - x / 10 * 10).toInt ≤ 4 := by
  rw [xi_rem (y := 10) (b := 10) rfl (by decide) (by unfold footOK at h; omega) (by omega)]
  unfold footOK at h
  omega
theorem btZ_in {z : Nat → Int32} (i : SongOK z) {l f : Nat} (hl : (l : Int) < (z 6).toInt) (hf : (f : Int) < (z (8 + l)).toInt) : 2 ≤ (btZ z l f).toInt ∧ (btZ z l f).toInt ≤ 4 := rem10 ((i.2 l hl).2 f hf)
theorem RPos_at {z : Nat → Int32} (i : RPos z) (ir : RoadOK z) (h : 0 < (z 7).toInt) (hw : z 188 = 0) : (z 179).toInt < (z 7).toInt := by
  obtain ⟨⟨i1, i2⟩, -, i3⟩ := i
  rcases Int.lt_or_eq_of_le i2 with q | q
  · exact q
  · rw [if_pos ⟨h, q⟩] at i3
    rw [hw] at i3
    exact absurd i3 (by decide)
theorem RPos_atZ {z : Nat → Int32} (i : RPos z) (ir : RoadOK z) (h : 0 < (z 7).toInt) (hw : z 188 = 0) : atZ z := by
  have := RPos_at i ir h hw
  have := ir.1
  have := i.1
  exact ⟨by omega, by omega⟩
end
section
theorem step_inv {z : Nat → Int32} (ir : RoadOK z) (i : RPos z) (h7 : 0 < (z 7).toInt) (hw : z 188 = 0) : RPos (stepZ z) := by
  have ht := RPos_at i ir h7 hw
  obtain ⟨⟨i1, i2⟩, i3, i4⟩ := i
  obtain ⟨j1, j2⟩ := i3 ht
  obtain ⟨k1, k2⟩ := ir
  have hc : ∀ k, k < 174 → stepZ z k = z k := fun k hk => stepZ_o z (by omega) (by omega) (by omega) (by omega) (by omega) (by omega)
  have hs := (k2 ((z 179).toInt.toNat) (by omega)).1
  have h7' : stepZ z 7 = z 7 := hc 7 (by omega)
  unfold RPos
  rw [h7']
  by_cases q : skipZ z
  · have e9 : stepZ z 179 = z 179 := by rw [stepZ, if_pos q]; rfl
    have e0 : stepZ z 180 = z 180 := by rw [stepZ, if_pos q]; rfl
    have e8 : stepZ z 188 = z 188 := by rw [stepZ, if_pos q]; rfl
    rw [e9, e0, e8, ofZ_congr hc (by omega) (by omega)]
    exact ⟨⟨i1, i2⟩, fun _ => ⟨j1, j2⟩, i4⟩
  · by_cases u : fullZ z
    · have e9 : stepZ z 179 = z 179 + 1 := by rw [stepZ, if_neg q, if_pos u]; rfl
      have e0 : stepZ z 180 = 0 := by rw [stepZ, if_neg q, if_pos u]; rfl
      have e8 : stepZ z 188 = if z 179 + 1 = z 7 then 1 else 0 := by rw [stepZ, if_neg q, if_pos u]; rfl
      have t9 : (z 179 + 1).toInt = (z 179).toInt + 1 := xi_add rfl (by decide) (by omega) (by omega)
      rw [e9, e0, e8, t9]
      refine ⟨⟨by omega, by omega⟩, fun hlt => ⟨by decide, ?_⟩, ?_⟩
      · rw [ofZ_congr hc (by omega) (by omega)]
        have := (k2 ((z 179 + 1).toInt.toNat) (by omega)).1
        have z0 : (0 : Int32).toInt = 0 := by decide
        rw [t9] at this
        rw [z0]; omega
      · by_cases v : z 179 + 1 = z 7
        · rw [if_pos v, if_pos ⟨h7, by rw [← v, t9]⟩]
        · rw [if_neg v, if_neg (fun hh => v (xi_ext (by rw [t9, hh.2])))]
    · have e9 : stepZ z 179 = z 179 := by rw [stepZ, if_neg q, if_neg u]; rfl
      have e0 : stepZ z 180 = z 180 + 1 := by rw [stepZ, if_neg q, if_neg u]; rfl
      have e8 : stepZ z 188 = z 188 := by rw [stepZ, if_neg q, if_neg u]; rfl
      have t0 : (z 180 + 1).toInt = (z 180).toInt + 1 := xi_add rfl (by decide) (by omega) (by omega)
      rw [e9, e0, e8, ofZ_congr hc (by omega) (by omega), t0]
      refine ⟨⟨i1, i2⟩, fun _ => ⟨by omega, ?_⟩, i4⟩
      have hu : ¬ (z 180 + 1).toInt = (ofZ z ((z 179).toInt.toNat) 0).toInt := fun hh => u (xi_ext hh)
      omega
end
section
theorem goOn_inv {z : Nat → Int32} (is : SetOK z) (ig : SongOK z) (i : SPos z) (h6 : 0 < (z 6).toInt) (h182 : z 182 = 0) : SPos (goOnZ z) ∧ LOK (goOnZ z) := by
  obtain ⟨⟨i1, i2⟩, ⟨i3, i4⟩, i5, i6⟩ := i
  obtain ⟨j1, j2, j3⟩ := i6 h6
  have hc : ∀ k, k < 174 → goOnZ z k = z k := fun k hk => goOnZ_o z (by omega) (by omega) (by omega) (by omega) (by omega)
  have hb := btZ_in ig (l := (z 176).toInt.toNat) (f := (z 177).toInt.toNat) (by omega) (by omega)
  have hL := (ig.2 ((z 176).toInt.toNat) (by omega)).1
  have t8 : (z 178 + 1).toInt = (z 178).toInt + 1 := xi_add rfl (by decide) (by omega) (by omega)
  have t7 : (z 177 + 1).toInt = (z 177).toInt + 1 := xi_add rfl (by decide) (by omega) (by omega)
  have t6 : (z 176 + 1).toInt = (z 176).toInt + 1 := xi_add rfl (by decide) (by omega) (by omega)
  have z0 : (0 : Int32).toInt = 0 := by decide
  have hg1 := ig.1
  unfold SPos LOK
  rw [hc 6 (by omega)]
  by_cases q : inFootZ z
  · have e6 : goOnZ z 176 = z 176 := by rw [goOnZ, if_pos q]; rfl
    have e7 : goOnZ z 177 = z 177 := by rw [goOnZ, if_pos q]; rfl
    have e8 : goOnZ z 178 = z 178 + 1 := by rw [goOnZ, if_pos q]; rfl
    have e2 : goOnZ z 182 = z 182 := by rw [goOnZ, if_pos q]; rfl
    skip
    rw [e6, e7, e8, e2, hc _ (by omega), btZ_congr hc (by omega) (by omega), h182, z0]
    exact ⟨⟨⟨i1, i2⟩, ⟨i3, i4⟩, by omega, fun _ => ⟨j1, j2, q⟩⟩, by omega, by omega⟩
  · have f6 : footEZ z 176 = z 176 := footEZ_o z (by omega) (by omega) (by omega)
    have f7 : footEZ z 177 = z 177 + 1 := by rw [footEZ]; rfl
    have f8 : footEZ z 178 = 0 := by rw [footEZ]; rfl
    have f2 : footEZ z 182 = if mkZ z ((z 176).toInt.toNat) ((z 177).toInt.toNat) then z 1 else 0 := by rw [footEZ]; rfl
    have l2 : goOnZ z 182 = footEZ z 182 := by
      rw [goOnZ, if_neg q]
      split
      · rw [upd_n _ _ _ (by omega), upd_n _ _ _ (by omega), lineEZ]; split <;> simp [upd]
      · rw [lineEZ]; split <;> simp [upd]
    have l8 : goOnZ z 178 = footEZ z 178 := by
      rw [goOnZ, if_neg q]
      split
      · rw [upd_n _ _ _ (by omega), upd_n _ _ _ (by omega), lineEZ]; split <;> simp [upd]
      · rw [lineEZ]; split <;> simp [upd]
    have hL2 : 0 ≤ (goOnZ z 182).toInt ∧ (goOnZ z 182).toInt ≤ 9 := by
      rw [l2, f2]
      have := is.2.1
      split
      · exact this
      · rw [z0]; omega
    have h12 : ∀ l : Nat, (l : Int) < (z 6).toInt → 0 < (z (8 + l)).toInt ∧ (0 : Int) < (btZ z l 0).toInt := by
      intro l hl
      have := (ig.2 l hl).1
      exact ⟨by omega, by have := btZ_in ig (l := l) (f := 0) hl (by omega); omega⟩
    refine ⟨?_, hL2⟩
    rw [l8, f8, z0]
    by_cases u : inLineZ z
    · have lz : lineEZ z = footEZ z := by rw [lineEZ, if_pos u]
      have s6 : ¬ songEZ z := by
        show ¬ lineEZ z 176 = z 6
        rw [lz, f6]
        intro hh
        rw [hh] at j1
        omega
      have e6 : goOnZ z 176 = z 176 := by rw [goOnZ, if_neg q, if_neg s6, lz, f6]
      have e7 : goOnZ z 177 = z 177 + 1 := by rw [goOnZ, if_neg q, if_neg s6, lz, f7]
      skip
      have hu : ¬ (z 177 + 1).toInt = (z (8 + (z 176).toInt.toNat)).toInt := fun hh => u (xi_ext hh)
      have hlt : (z 177 + 1).toInt < (z (8 + (z 176).toInt.toNat)).toInt := by omega
      rw [e6, e7, hc _ (by omega), btZ_congr hc (by omega) (by omega)]
      have hb2 := btZ_in ig (l := (z 176).toInt.toNat) (f := (z 177 + 1).toInt.toNat) (by omega) (by omega)
      exact ⟨⟨i1, i2⟩, ⟨by omega, by omega⟩, by omega, fun _ => ⟨j1, hlt, by omega⟩⟩
    · have lz : lineEZ z = upd (upd (footEZ z) 177 0) 176 (z 176 + 1) := by rw [lineEZ, if_neg u]
      have l6 : lineEZ z 176 = z 176 + 1 := by rw [lz]; rfl
      have l7 : lineEZ z 177 = 0 := by rw [lz]; rfl
      by_cases s6 : songEZ z
      · have e6 : goOnZ z 176 = 0 := by rw [goOnZ, if_neg q, if_pos s6]; rfl
        have e7 : goOnZ z 177 = 0 := by rw [goOnZ, if_neg q, if_pos s6, upd_n _ _ _ (by omega), upd_n _ _ _ (by omega), l7]
        skip
        have n0 : (0 : Int32).toInt.toNat = 0 := by decide
        rw [e6, e7, n0, z0, hc _ (by omega), btZ_congr hc (by omega) (by omega)]
        have := h12 0 (by omega)
        exact ⟨⟨by omega, by omega⟩, ⟨by omega, by omega⟩, by omega, fun _ => ⟨by omega, this.1, this.2⟩⟩
      · have e6 : goOnZ z 176 = z 176 + 1 := by rw [goOnZ, if_neg q, if_neg s6, l6]
        have e7 : goOnZ z 177 = 0 := by rw [goOnZ, if_neg q, if_neg s6, l7]
        skip
        have n0 : (0 : Int32).toInt.toNat = 0 := by decide
        have hs : ¬ (z 176 + 1).toInt = (z 6).toInt := fun hh => s6 (show lineEZ z 176 = z 6 by rw [l6]; exact xi_ext hh)
        rw [e6, e7, n0, z0, hc _ (by omega), btZ_congr hc (by omega) (by omega)]
        have := h12 ((z 176 + 1).toInt.toNat) (by omega)
        exact ⟨⟨by omega, by omega⟩, ⟨by omega, by omega⟩, by omega, fun _ => ⟨by omega, this.1, this.2⟩⟩
end
section
theorem SPos_c {z w : Nat → Int32} (h : ∀ k, k < 174 → w k = z k) (h6 : w 176 = z 176) (h7 : w 177 = z 177) (h8 : w 178 = z 178) (ig : SongOK z) (i : SPos z) : SPos w := by
  have hg := ig.1
  unfold SPos at *
  rw [h6, h7, h8, h 6 (by omega)]
  refine ⟨i.1, i.2.1, i.2.2.1, fun h0 => ?_⟩
  obtain ⟨j1, j2, j3⟩ := i.2.2.2 h0
  rw [h _ (by omega), btZ_congr h (by omega) (by omega)]
  exact ⟨j1, j2, j3⟩
theorem RPos_c {z w : Nat → Int32} (h : ∀ k, k < 174 → w k = z k) (h6 : w 179 = z 179) (h7 : w 180 = z 180) (h8 : w 188 = z 188) (ir : RoadOK z) (i : RPos z) : RPos w := by
  have hg := ir.1
  unfold RPos at *
  rw [h6, h7, h8, h 7 (by omega)]
  refine ⟨i.1, fun h0 => ?_, i.2.2⟩
  rw [ofZ_congr h (by omega) (by omega)]
  exact i.2.1 h0
end
section
theorem beat_inv {z : Nat → Int32} (i : InvZ z) (hc : canZ z) (hw : z 188 = 0) : InvZ (beatZ z) := by
  obtain ⟨is, ig, ir, ip, iq, il⟩ := i
  have lo : ∀ k, k < 174 → beatZ z k = z k := fun k hk => beatZ_lo z hk
  refine ⟨SetOK_c lo is, SongOK_c lo ig, RoadOK_c lo ir, ?_⟩
  by_cases r : restZ z
  · have e : beatZ z = restsZ z := by rw [beatZ, if_pos r]
    rw [e] at lo ⊢
    refine ⟨SPos_c lo (restsZ_o z (by omega) (by omega) (by omega) (by omega) (by omega)) (restsZ_o z (by omega) (by omega) (by omega) (by omega) (by omega)) (restsZ_o z (by omega) (by omega) (by omega) (by omega) (by omega)) ig ip, RPos_c lo (restsZ_o z (by omega) (by omega) (by omega) (by omega) (by omega)) (restsZ_o z (by omega) (by omega) (by omega) (by omega) (by omega)) (restsZ_o z (by omega) (by omega) (by omega) (by omega) (by omega)) ir iq, ?_⟩
    have h1 : restsZ z 182 = preZ z 182 - 1 := by rw [restsZ]; rfl
    have h2 : (preZ z 182).toInt ≤ 9 := by
      unfold preZ
      rw [upd_n _ _ _ (by omega)]
      split
      · rw [upd_s]; exact is.2.2.1.2
      · rw [upd_n _ _ _ (by omega)]; exact il.2
    have r' : 0 < (preZ z 182).toInt := r
    unfold LOK
    rw [h1, xi_sub (b := 1) rfl (by decide) (by omega) (by omega)]
    omega
  · have e : beatZ z = goOnZ (stepZ (singZ z)) := by rw [beatZ, if_neg r]
    have r' : ¬ 0 < (preZ z 182).toInt := r
    have hg : ¬ gaspZ z := by
      intro g
      have : preZ z 182 = z 2 := by rw [preZ, if_pos g]; rfl
      rw [this] at r'
      have := is.2.2.1
      omega
    have p2 : preZ z 182 = z 182 := by rw [preZ, if_neg hg]; rfl
    have z2 : z 182 = 0 := xi_ext (by have z0 : (0 : Int32).toInt = 0 := by decide
                                      rw [p2] at r'; unfold LOK at il; rw [z0]; omega)
    have s2 : singZ z 182 = 0 := by
      show upd _ _ _ _ = _
      rw [upd_n _ _ _ (by omega), upd_n _ _ _ (by omega), upd_n _ _ _ (by omega), p2, z2]
    have lw : ∀ k, k < 174 → singZ z k = z k := fun k hk => singZ_o z (by omega) (by omega) (by omega) (by omega) (by omega) (by omega)
    have w6 : SPos (singZ z) := SPos_c lw (singZ_o z (by omega) (by omega) (by omega) (by omega) (by omega) (by omega)) (singZ_o z (by omega) (by omega) (by omega) (by omega) (by omega) (by omega)) (singZ_o z (by omega) (by omega) (by omega) (by omega) (by omega) (by omega)) ig ip
    have h188 : singZ z 188 = z 188 := singZ_o z (by omega) (by omega) (by omega) (by omega) (by omega) (by omega)
    have w7 : RPos (singZ z) := RPos_c lw (singZ_o z (by omega) (by omega) (by omega) (by omega) (by omega) (by omega)) (singZ_o z (by omega) (by omega) (by omega) (by omega) (by omega) (by omega)) h188 ir iq
    have wr := RoadOK_c lw ir
    have ww := step_inv wr w7 (by rw [lw 7 (by omega)]; exact hc.2) (by rw [h188]; exact hw)
    have lv : ∀ k, k < 174 → stepZ (singZ z) k = singZ z k := fun k hk => stepZ_o _ (by omega) (by omega) (by omega) (by omega) (by omega) (by omega)
    have v6 : SPos (stepZ (singZ z)) := SPos_c lv (stepZ_o _ (by omega) (by omega) (by omega) (by omega) (by omega) (by omega)) (stepZ_o _ (by omega) (by omega) (by omega) (by omega) (by omega) (by omega)) (stepZ_o _ (by omega) (by omega) (by omega) (by omega) (by omega) (by omega)) (SongOK_c lw ig) w6
    have lu : ∀ k, k < 174 → goOnZ (stepZ (singZ z)) k = stepZ (singZ z) k := fun k hk => goOnZ_o _ (by omega) (by omega) (by omega) (by omega) (by omega)
    have gi := goOn_inv (SetOK_c lv (SetOK_c lw is)) (SongOK_c lv (SongOK_c lw ig)) v6 (by rw [lv 6 (by omega), lw 6 (by omega)]; exact hc.1) (by rw [stepZ_o _ (by omega) (by omega) (by omega) (by omega) (by omega) (by omega)]; exact s2)
    rw [e]
    exact ⟨gi.1, RPos_c lu (goOnZ_o _ (by omega) (by omega) (by omega) (by omega) (by omega)) (goOnZ_o _ (by omega) (by omega) (by omega) (by omega) (by omega)) (goOnZ_o _ (by omega) (by omega) (by omega) (by omega) (by omega)) (RoadOK_c lv wr) ww, gi.2⟩
end
section
/-! ===== marching on, records, changes ===== -/
def walkZ : Nat → (Nat → Int32) → (Nat → Int32)
  | 0, z => z
  | b + 1, z => if z 188 = 0 then walkZ b (beatZ z) else z
def walkN : Nat → (Nat → Int32) → Nat
  | 0, _ => 0
  | b + 1, z => if z 188 = 0 then walkN b (beatZ z) + 1 else 0
theorem walkN_le : ∀ (b : Nat) (z : Nat → Int32), walkN b z ≤ b
  | 0, z => Nat.le_refl 0
  | b + 1, z => by
    rw [walkN]
    split
    · exact Nat.succ_le_succ (walkN_le b _)
    · exact Nat.zero_le _
theorem beat_can {z : Nat → Int32} (h : canZ z) : canZ (beatZ z) := by
  unfold canZ
  rw [beatZ_lo z (by omega), beatZ_lo z (by omega)]
  exact h
theorem InvZ_h5 {z : Nat → Int32} (i : InvZ z) : ¬ z 5 = 0 := fun h => by
  have h1 : (z 5).toInt = 0 := by rw [h]; rfl
  have := i.1.2.2.2.2
  omega
theorem InvZ_pos {z : Nat → Int32} (i : InvZ z) : 0 ≤ (z 176).toInt ∧ (z 176).toInt ≤ 9 ∧ 0 ≤ (z 177).toInt ∧ (z 177).toInt ≤ 11 := by
  have := i.2.2.2.1.1
  have := i.2.2.2.1.2.1
  omega
theorem InvZ_at {z : Nat → Int32} (i : InvZ z) (h : canZ z) (hw : z 188 = 0) : atZ z := RPos_atZ i.2.2.2.2.1 i.2.2.1 h.2 hw
def shiftP (past : Nat → Int32) (n : Nat) : Nat → Int32 := fun j => if j < n then past (j + 190) else past j
theorem shiftP_0 (past : Nat → Int32) : shiftP past 0 = past := by funext j; simp [shiftP]
theorem shiftP_s (past : Nat → Int32) (n : Nat) : upd (shiftP past n) n (shiftP past n (n + 190)) = shiftP past (n + 1) := by
  funext j
  have h1 : shiftP past n (n + 190) = past (n + 190) := by unfold shiftP; rw [if_neg (by omega)]
  rw [h1]
  unfold shiftP upd
  by_cases h : j = n
  · subst h; simp
  · have : j < n + 1 ↔ j < n := by omega
    simp [h, this]
def recP (z past : Nat → Int32) (g : Int32) : Nat → Int32 := if g = 6 then va_cpy z (shiftP past 950) 0 950 190 else va_cpy z past 0 (190 * g.toInt.toNat) 190
def recS (g : Int32) : Int32 := if g = 6 then 6 else g + 1
def undoR (g : Int32) : Int32 := if g = 0 then -5 else g - 1
def undoS (g : Int32) : Int32 := if g = 0 then g else g - 1
def undoZ (g : Int32) (past z : Nat → Int32) : Nat → Int32 := if g = 0 then z else va_cpy past z (190 * (g - 1).toInt.toNat) 0 190
abbrev slotV (p : Int32) : Prop := 0 ≤ p.toInt ∧ p.toInt ≤ 1
abbrev restC (p : Int32) (sv : Nat → Int32) : Prop := slotV p ∧ ¬ sv p.toInt.toNat = 0
def restR (p : Int32) (sv sl : Nat → Int32) : Int32 := if slotV p then (if sv p.toInt.toNat = 0 then -5 else sl (190 * p.toInt.toNat + 174)) else -2
abbrev setV (p v : Int32) : Prop := (p.toInt = 0 ∧ 1 ≤ v.toInt ∧ v.toInt ≤ 9) ∨ (p.toInt = 1 ∧ 0 ≤ v.toInt ∧ v.toInt ≤ 9) ∨ (p.toInt = 2 ∧ 1 ≤ v.toInt ∧ v.toInt ≤ 9) ∨ (p.toInt = 3 ∧ 1 ≤ v.toInt ∧ v.toInt ≤ 20) ∨ (p.toInt = 4 ∧ 5 ≤ v.toInt ∧ v.toInt ≤ 60) ∨ (p.toInt = 5 ∧ 2 ≤ v.toInt ∧ v.toInt ≤ 9)
abbrev paveV (p1 p2 : Int32) : Prop := (1 ≤ p1.toInt ∧ p1.toInt ≤ 99) ∧ (-3 ≤ p2.toInt ∧ p2.toInt ≤ 3)
abbrev paveC (z : Nat → Int32) (p1 p2 : Int32) : Prop := paveV p1 p2 ∧ ¬ z 7 = 12
def paveZ (z : Nat → Int32) (p1 p2 p3 : Int32) : Nat → Int32 := beginZ (upd (upd (upd (upd z (3 * (z 7).toInt.toNat + 138) p1) (3 * (z 7).toInt.toNat + 139) p2) (3 * (z 7).toInt.toNat + 140) p3) 7 (z 7 + 1))
def paveR (z : Nat → Int32) (p1 p2 : Int32) : Int32 := if paveV p1 p2 then (if z 7 = 12 then -4 else z 7) else -2
abbrev tearC (z : Nat → Int32) (p : Int32) : Prop := 0 ≤ p.toInt ∧ p.toInt < (z 7).toInt
def shiftR (z : Nat → Int32) (a n : Nat) : Nat → Int32 := fun j => if a ≤ j ∧ j < n then z (j + 3) else z j
theorem shiftR_0 (z : Nat → Int32) (a n : Nat) (h : n ≤ a) : shiftR z a n = z := by funext j; unfold shiftR; rw [if_neg (by omega)]
theorem shiftR_s (z : Nat → Int32) (a n : Nat) (h : a ≤ n) : upd (shiftR z a n) n (shiftR z a n (n + 3)) = shiftR z a (n + 1) := by
  funext j
  have h1 : shiftR z a n (n + 3) = z (n + 3) := by unfold shiftR; rw [if_neg (by omega)]
  rw [h1]
  unfold shiftR upd
  by_cases e : j = n
  · subst e; rw [if_pos rfl, if_pos (by omega)]
  · rw [if_neg e]
    dsimp only
    by_cases q : a ≤ j ∧ j < n
    · rw [if_pos q, if_pos (by omega)]
    · rw [if_neg q, if_neg (by omega)]
def tearZ (z : Nat → Int32) (p : Int32) : Nat → Int32 := beginZ (shiftR (upd z 7 (z 7 - 1)) (3 * p.toInt.toNat + 138) (3 * ((z 7).toInt.toNat - 1) + 138))
def begP (z : Nat → Int32) (n : Nat) : Nat → Int32 := fun k => if 174 ≤ k ∧ k < n then 0 else z k
theorem begP_0 (z : Nat → Int32) : begP z 174 = z := beginZ_0 z
theorem begP_s (z : Nat → Int32) (n : Nat) (h : 174 ≤ n) : upd (begP z n) n 0 = begP z (n + 1) := beginZ_step z n h
theorem begP_4 (z : Nat → Int32) (n : Nat) : begP z n 4 = z 4 := by unfold begP; rw [if_neg (by omega)]
theorem begP_e (z : Nat → Int32) : upd (begP z 190) 181 (z 4) = beginZ z := beginZ_loop z
theorem beginZ_lo (z : Nat → Int32) {k : Nat} (h : k < 174) : beginZ z k = z k := by unfold beginZ; rw [if_neg (by omega), if_neg (by omega)]
end
section
set_option maxHeartbeats 4000000 in
set_option maxRecDepth 100000 in
theorem c_X8_in (l : Launch) (D : va_G) (cI cZ cS : ClassId) (p0 p1 p2 : Int32)  : xMi l yX8_in cX8_in 3 (some .boolean) ({ frames := 0, cells := 0, slots := 0, locals := 0 } : Room) D (xTy cI cZ cS) [.int p0, .int p1, .int p2] [] (fun (r : Int32) (_ : Unit) => ((r = 1 ∧ (p1.toInt ≤ p0.toInt ∧ p0.toInt ≤ p2.toInt)) ∨ (r = 0 ∧ ¬ (p1.toInt ≤ p0.toInt ∧ p0.toInt ≤ p2.toInt)))) (fun (_ : Unit) => []) := by
  refine xk_bodyi (by decide) (Nat.le_of_ble_eq_true rfl) ?_
  intro p e s m below meth c A ls args Q hx hb hr hts hown hlocks hml hin hK hP hD hS hA hN hZ hl hQ
  have hl : lv_has ls 3 [(0, .int p0), (1, .int p1), (2, .int p2)] := hl
  refine lv_iload_n hx hb dX8_in_0 rfl (lv_at hl 0 rfl) ?_
  refine lv_iload_n hx hb dX8_in_1 rfl (lv_at hl 1 rfl) ?_
  refine lv_icmp_lt (tgt := 14) hx hb dX8_in_2 (by decide) (fun c2 => ?_) (fun c2 => ?_)
  · have t2 : p0.toInt < p1.toInt := xi_lt rfl rfl c2
    refine lv_iconst (v := 0) hx hb dX8_in_14 (by decide) ?_
    exact xk_retz () hx hb hr hlocks (by decide) (xk_P hP (by rfl)) (by first | exact Or.inl ⟨rfl, by omega⟩ | exact Or.inr ⟨rfl, by omega⟩) hS dX8_in_15 hQ
  · have t2 : p1.toInt ≤ p0.toInt := xi_nlt rfl rfl c2
    refine lv_iload_n hx hb dX8_in_5 rfl (lv_at hl 0 rfl) ?_
    refine lv_iload_n hx hb dX8_in_6 rfl (lv_at hl 2 rfl) ?_
    refine lv_icmp_gt (tgt := 14) hx hb dX8_in_7 (by decide) (fun c7 => ?_) (fun c7 => ?_)
    · have t7 : p2.toInt < p0.toInt := xi_lt rfl rfl c7
      refine lv_iconst (v := 0) hx hb dX8_in_14 (by decide) ?_
      exact xk_retz () hx hb hr hlocks (by decide) (xk_P hP (by rfl)) (by first | exact Or.inl ⟨rfl, by omega⟩ | exact Or.inr ⟨rfl, by omega⟩) hS dX8_in_15 hQ
    · have t7 : p0.toInt ≤ p2.toInt := xi_nlt rfl rfl c7
      refine lv_iconst (v := 1) hx hb dX8_in_10 (by decide) ?_
      refine lv_goto (tgt := 15) hx hb dX8_in_11 (by decide) ?_
      exact xk_retz () hx hb hr hlocks (by decide) (xk_P hP (by rfl)) (by first | exact Or.inl ⟨rfl, by omega⟩ | exact Or.inr ⟨rfl, by omega⟩) hS dX8_in_15 hQ

set_option maxHeartbeats 4000000 in
set_option maxRecDepth 100000 in
theorem c_X8_ofStretch (l : Launch) (D : va_G) (cI cZ cS : ClassId) (h h1 h2 h3 h4 h5 h6 h7 h8 : Nat) (gst gty gse gte gsp gtl : Int32) (z : Nat → Int32) (p1 p2 : Int32) (hs : 0 ≤ p1.toInt ∧ p1.toInt ≤ 11) (hw : 0 ≤ p2.toInt ∧ p2.toInt ≤ 2) : xMi l yX8_ofStretch cX8_ofStretch 3 (some .int) ({ frames := 0, cells := 0, slots := 0, locals := 0 } : Room) D (xTy cI cZ cS) [.ref h, .int p1, .int p2] [(h, .inr (8, [.ref h1, .ref h2, .ref h3, .int gst, .ref h4, .ref h5, .ref h6, .int gty, .int gse, .int gte, .int gsp, .ref h7, .ref h8, .int gtl])), (h1, .inl (cI, 190, .inl z))] (fun (r : Int32) (_ : Unit) => r = ofZ z p1.toInt.toNat p2.toInt.toNat) (fun (_ : Unit) => [(h, .inr (8, [.ref h1, .ref h2, .ref h3, .int gst, .ref h4, .ref h5, .ref h6, .int gty, .int gse, .int gte, .int gsp, .ref h7, .ref h8, .int gtl])), (h1, .inl (cI, 190, .inl z))]) := by
  refine xk_bodyi (by decide) (Nat.le_of_ble_eq_true rfl) ?_
  intro p e s m below meth c A ls args Q hx hb hr hts hown hlocks hml hin hK hP hD hS hA hN hZ hl hQ
  have hl : lv_has ls 3 [(0, .ref h), (1, .int p1), (2, .int p2)] := hl
  refine lv_aload_n hx hb dX8_ofStretch_0 rfl (lv_at hl 0 rfl) ?_
  refine va_get (D := D) (ci := 8) (v := .ref h1) (C := RX8) (T := TX8) (N := 14) hx hb hts xin8 hown hK hP 0 rfl rfl 0 (by decide) (hts _ (List.mem_cons_of_mem _ mw_3_85)) (fun _ h9 => h9) rfl dX8_ofStretch_1 ?_
  refine lv_sipush (v := 138) hx hb dX8_ofStretch_4 (by decide) ?_
  refine lv_iconst (v := 3) hx hb dX8_ofStretch_7 (by decide) ?_
  refine lv_iload_n hx hb dX8_ofStretch_8 rfl (lv_at hl 1 rfl) ?_
  refine lv_imul hx hb dX8_ofStretch_9 ?_
  refine lv_topi (fun x9 e9 => ?_)
  have t9 : x9.toInt = 3 * p1.toInt := by rw [e9]; exact xi_mul (by decide) rfl (by omega) (by omega)
  refine lv_iadd hx hb dX8_ofStretch_10 ?_
  refine lv_topi (fun x10 e10 => ?_)
  have t10 : x10.toInt = 138 + x9.toInt := by rw [e10]; exact xi_add (by decide) rfl (by omega) (by omega)
  refine lv_iload_n hx hb dX8_ofStretch_11 rfl (lv_at hl 2 rfl) ?_
  refine lv_iadd hx hb dX8_ofStretch_12 ?_
  refine lv_topi (fun x12 e12 => ?_)
  have t12 : x12.toInt = x10.toInt + p2.toInt := by rw [e12]; exact xi_add rfl rfl (by omega) (by omega)
  refine va_iald hx hb hK hP 1 0 rfl rfl (xi_in (by omega) (by omega)) dX8_ofStretch_13 ?_
  refine xk_top (z := z (3 * p1.toInt.toNat + (138 + p2.toInt.toNat))) (xk_rd (by omega)) ?_
  refine lv_topi (fun x13 e13 => ?_)
  exact xk_reti () hx hb hr hlocks (xk_P hP (by rfl)) (by exact e13) hS dX8_ofStretch_14 hQ

set_option maxHeartbeats 4000000 in
set_option maxRecDepth 100000 in
theorem c_X8_isStretch (l : Launch) (D : va_G) (cI cZ cS : ClassId) (h h1 h2 h3 h4 h5 h6 h7 h8 : Nat) (gst gty gse gte gsp gtl : Int32) (z : Nat → Int32) (p1 : Int32) (hs : 0 ≤ (z 7).toInt ∧ (z 7).toInt ≤ 12) : xMi l yX8_isStretch cX8_isStretch 2 (some .boolean) ({ frames := 1, cells := 0, slots := 0, locals := 22 } : Room) D (xTy cI cZ cS) [.ref h, .int p1] [(h, .inr (8, [.ref h1, .ref h2, .ref h3, .int gst, .ref h4, .ref h5, .ref h6, .int gty, .int gse, .int gte, .int gsp, .ref h7, .ref h8, .int gtl])), (h1, .inl (cI, 190, .inl z))] (fun (r : Int32) (_ : Unit) => ((r = 1 ∧ (0 ≤ p1.toInt ∧ p1.toInt < (z 7).toInt)) ∨ (r = 0 ∧ ¬ (0 ≤ p1.toInt ∧ p1.toInt < (z 7).toInt)))) (fun (_ : Unit) => [(h, .inr (8, [.ref h1, .ref h2, .ref h3, .int gst, .ref h4, .ref h5, .ref h6, .int gty, .int gse, .int gte, .int gsp, .ref h7, .ref h8, .int gtl])), (h1, .inl (cI, 190, .inl z))]) := by
  refine xk_bodyi (by decide) (Nat.le_of_ble_eq_true rfl) ?_
  intro p e s m below meth c A ls args Q hx hb hr hts hown hlocks hml hin hK hP hD hS hA hN hZ hl hQ
  have hl : lv_has ls 2 [(0, .ref h), (1, .int p1)] := hl
  refine lv_iload_n hx hb dX8_isStretch_0 rfl (lv_at hl 1 rfl) ?_
  refine lv_iconst (v := 0) hx hb dX8_isStretch_1 (by decide) ?_
  refine lv_aload_n hx hb dX8_isStretch_2 rfl (lv_at hl 0 rfl) ?_
  refine va_get (D := D) (ci := 8) (v := .ref h1) (C := RX8) (T := TX8) (N := 14) hx hb hts xin8 hown hK hP 0 rfl rfl 0 (by decide) (hts _ (List.mem_cons_of_mem _ mw_3_85)) (fun _ h9 => h9) rfl dX8_isStretch_3 ?_
  refine lv_bipush (v := 7) hx hb dX8_isStretch_6 (by decide) ?_
  refine va_iald hx hb hK hP 1 0 rfl rfl (xi_in (by decide) (by decide)) dX8_isStretch_8 ?_
  refine xk_top (z := z 7) rfl ?_
  refine lv_iconst (v := 1) hx hb dX8_isStretch_9 (by decide) ?_
  refine lv_isub hx hb dX8_isStretch_10 ?_
  refine lv_topi (fun x10 e10 => ?_)
  have t10 : x10.toInt = ((z 7).toInt) - 1 := by rw [e10]; exact xi_sub rfl (by decide) (by omega) (by omega)
  refine xk_Si (As := [.int p1, .int 0, .int x10]) (rest := []) hx hb hml hown hts hK hN hZ hP hD hS hA mb_X8_in mw_3_139 mw_3_140 (c_X8_in l D cI cZ cS p1 (0 : Int32) x10 ) [] (by decide) rfl (fun _ => rfl) (by decide) (by decide) rfl hl.1 rfl (Nat.le_of_ble_eq_true rfl) dX8_isStretch_11 ⟨Nat.zero_le _, Nat.zero_le _⟩ (fun r11 _ H locs hw hP hD hS => ?_)
  have hP : va_P D vwCl [(h, .inr (8, [.ref h1, .ref h2, .ref h3, .int gst, .ref h4, .ref h5, .ref h6, .int gty, .int gse, .int gte, .int gsp, .ref h7, .ref h8, .int gtl])), (h1, .inl (cI, 190, .inl z))] H := hP
  have hD : va_D A [(h, .inr (8, [.ref h1, .ref h2, .ref h3, .int gst, .ref h4, .ref h5, .ref h6, .int gty, .int gse, .int gte, .int gsp, .ref h7, .ref h8, .int gtl])), (h1, .inl (cI, 190, .inl z))] := hD
  rcases hw with ⟨rfl, b11⟩ | ⟨rfl, b11⟩
  · have b11 : 0 ≤ p1.toInt ∧ p1.toInt ≤ x10.toInt := b11
    exact xk_retz () hx hb hr hlocks (by decide) (xk_P hP (by rfl)) (by first | exact Or.inl ⟨rfl, by omega⟩ | exact Or.inr ⟨rfl, by omega⟩) hS dX8_isStretch_14 hQ
  · have b11 : ¬ (0 ≤ p1.toInt ∧ p1.toInt ≤ x10.toInt) := b11
    exact xk_retz () hx hb hr hlocks (by decide) (xk_P hP (by rfl)) (by first | exact Or.inl ⟨rfl, by omega⟩ | exact Or.inr ⟨rfl, by omega⟩) hS dX8_isStretch_14 hQ

set_option maxHeartbeats 4000000 in
set_option maxRecDepth 100000 in
theorem c_X8_isLine (l : Launch) (D : va_G) (cI cZ cS : ClassId) (h h1 h2 h3 h4 h5 h6 h7 h8 : Nat) (gst gty gse gte gsp gtl : Int32) (z : Nat → Int32) (p1 : Int32) (hs : 0 ≤ (z 6).toInt ∧ (z 6).toInt ≤ 10) : xMi l yX8_isLine cX8_isLine 2 (some .boolean) ({ frames := 1, cells := 0, slots := 0, locals := 22 } : Room) D (xTy cI cZ cS) [.ref h, .int p1] [(h, .inr (8, [.ref h1, .ref h2, .ref h3, .int gst, .ref h4, .ref h5, .ref h6, .int gty, .int gse, .int gte, .int gsp, .ref h7, .ref h8, .int gtl])), (h1, .inl (cI, 190, .inl z))] (fun (r : Int32) (_ : Unit) => ((r = 1 ∧ (0 ≤ p1.toInt ∧ p1.toInt < (z 6).toInt)) ∨ (r = 0 ∧ ¬ (0 ≤ p1.toInt ∧ p1.toInt < (z 6).toInt)))) (fun (_ : Unit) => [(h, .inr (8, [.ref h1, .ref h2, .ref h3, .int gst, .ref h4, .ref h5, .ref h6, .int gty, .int gse, .int gte, .int gsp, .ref h7, .ref h8, .int gtl])), (h1, .inl (cI, 190, .inl z))]) := by
  refine xk_bodyi (by decide) (Nat.le_of_ble_eq_true rfl) ?_
  intro p e s m below meth c A ls args Q hx hb hr hts hown hlocks hml hin hK hP hD hS hA hN hZ hl hQ
  have hl : lv_has ls 2 [(0, .ref h), (1, .int p1)] := hl
  refine lv_iload_n hx hb dX8_isLine_0 rfl (lv_at hl 1 rfl) ?_
  refine lv_iconst (v := 0) hx hb dX8_isLine_1 (by decide) ?_
  refine lv_aload_n hx hb dX8_isLine_2 rfl (lv_at hl 0 rfl) ?_
  refine va_get (D := D) (ci := 8) (v := .ref h1) (C := RX8) (T := TX8) (N := 14) hx hb hts xin8 hown hK hP 0 rfl rfl 0 (by decide) (hts _ (List.mem_cons_of_mem _ mw_3_85)) (fun _ h9 => h9) rfl dX8_isLine_3 ?_
  refine lv_bipush (v := 6) hx hb dX8_isLine_6 (by decide) ?_
  refine va_iald hx hb hK hP 1 0 rfl rfl (xi_in (by decide) (by decide)) dX8_isLine_8 ?_
  refine xk_top (z := z 6) rfl ?_
  refine lv_iconst (v := 1) hx hb dX8_isLine_9 (by decide) ?_
  refine lv_isub hx hb dX8_isLine_10 ?_
  refine lv_topi (fun x10 e10 => ?_)
  have t10 : x10.toInt = ((z 6).toInt) - 1 := by rw [e10]; exact xi_sub rfl (by decide) (by omega) (by omega)
  refine xk_Si (As := [.int p1, .int 0, .int x10]) (rest := []) hx hb hml hown hts hK hN hZ hP hD hS hA mb_X8_in mw_3_139 mw_3_140 (c_X8_in l D cI cZ cS p1 (0 : Int32) x10 ) [] (by decide) rfl (fun _ => rfl) (by decide) (by decide) rfl hl.1 rfl (Nat.le_of_ble_eq_true rfl) dX8_isLine_11 ⟨Nat.zero_le _, Nat.zero_le _⟩ (fun r11 _ H locs hw hP hD hS => ?_)
  have hP : va_P D vwCl [(h, .inr (8, [.ref h1, .ref h2, .ref h3, .int gst, .ref h4, .ref h5, .ref h6, .int gty, .int gse, .int gte, .int gsp, .ref h7, .ref h8, .int gtl])), (h1, .inl (cI, 190, .inl z))] H := hP
  have hD : va_D A [(h, .inr (8, [.ref h1, .ref h2, .ref h3, .int gst, .ref h4, .ref h5, .ref h6, .int gty, .int gse, .int gte, .int gsp, .ref h7, .ref h8, .int gtl])), (h1, .inl (cI, 190, .inl z))] := hD
  rcases hw with ⟨rfl, b11⟩ | ⟨rfl, b11⟩
  · have b11 : 0 ≤ p1.toInt ∧ p1.toInt ≤ x10.toInt := b11
    exact xk_retz () hx hb hr hlocks (by decide) (xk_P hP (by rfl)) (by first | exact Or.inl ⟨rfl, by omega⟩ | exact Or.inr ⟨rfl, by omega⟩) hS dX8_isLine_14 hQ
  · have b11 : ¬ (0 ≤ p1.toInt ∧ p1.toInt ≤ x10.toInt) := b11
    exact xk_retz () hx hb hr hlocks (by decide) (xk_P hP (by rfl)) (by first | exact Or.inl ⟨rfl, by omega⟩ | exact Or.inr ⟨rfl, by omega⟩) hS dX8_isLine_14 hQ

set_option maxHeartbeats 4000000 in
set_option maxRecDepth 100000 in
theorem c_X8_beatsOf (l : Launch) (D : va_G) (cI cZ cS : ClassId) (h h1 h2 h3 h4 h5 h6 h7 h8 : Nat) (gst gty gse gte gsp gtl : Int32) (z : Nat → Int32) (p1 p2 : Int32) (hg : 0 ≤ p1.toInt ∧ p1.toInt ≤ 9) (hf : 0 ≤ p2.toInt ∧ p2.toInt ≤ 11) : xMi l yX8_beatsOf cX8_beatsOf 3 (some .int) ({ frames := 0, cells := 0, slots := 0, locals := 0 } : Room) D (xTy cI cZ cS) [.ref h, .int p1, .int p2] [(h, .inr (8, [.ref h1, .ref h2, .ref h3, .int gst, .ref h4, .ref h5, .ref h6, .int gty, .int gse, .int gte, .int gsp, .ref h7, .ref h8, .int gtl])), (h1, .inl (cI, 190, .inl z))] (fun (r : Int32) (_ : Unit) => r = btZ z p1.toInt.toNat p2.toInt.toNat) (fun (_ : Unit) => [(h, .inr (8, [.ref h1, .ref h2, .ref h3, .int gst, .ref h4, .ref h5, .ref h6, .int gty, .int gse, .int gte, .int gsp, .ref h7, .ref h8, .int gtl])), (h1, .inl (cI, 190, .inl z))]) := by
  refine xk_bodyi (by decide) (Nat.le_of_ble_eq_true rfl) ?_
  intro p e s m below meth c A ls args Q hx hb hr hts hown hlocks hml hin hK hP hD hS hA hN hZ hl hQ
  have hl : lv_has ls 3 [(0, .ref h), (1, .int p1), (2, .int p2)] := hl
  refine lv_aload_n hx hb dX8_beatsOf_0 rfl (lv_at hl 0 rfl) ?_
  refine va_get (D := D) (ci := 8) (v := .ref h1) (C := RX8) (T := TX8) (N := 14) hx hb hts xin8 hown hK hP 0 rfl rfl 0 (by decide) (hts _ (List.mem_cons_of_mem _ mw_3_85)) (fun _ h9 => h9) rfl dX8_beatsOf_1 ?_
  refine lv_bipush (v := 18) hx hb dX8_beatsOf_4 (by decide) ?_
  refine lv_bipush (v := 12) hx hb dX8_beatsOf_6 (by decide) ?_
  refine lv_iload_n hx hb dX8_beatsOf_8 rfl (lv_at hl 1 rfl) ?_
  refine lv_imul hx hb dX8_beatsOf_9 ?_
  refine lv_topi (fun x9 e9 => ?_)
  have t9 : x9.toInt = 12 * p1.toInt := by rw [e9]; exact xi_mul (by decide) rfl (by omega) (by omega)
  refine lv_iadd hx hb dX8_beatsOf_10 ?_
  refine lv_topi (fun x10 e10 => ?_)
  have t10 : x10.toInt = 18 + x9.toInt := by rw [e10]; exact xi_add (by decide) rfl (by omega) (by omega)
  refine lv_iload_n hx hb dX8_beatsOf_11 rfl (lv_at hl 2 rfl) ?_
  refine lv_iadd hx hb dX8_beatsOf_12 ?_
  refine lv_topi (fun x12 e12 => ?_)
  have t12 : x12.toInt = x10.toInt + p2.toInt := by rw [e12]; exact xi_add rfl rfl (by omega) (by omega)
  refine va_iald hx hb hK hP 1 0 rfl rfl (xi_in (by omega) (by omega)) dX8_beatsOf_13 ?_
  refine xk_top (z := z (12 * p1.toInt.toNat + p2.toInt.toNat + 18)) (xk_rd (by omega)) ?_
  refine lv_topi (fun x13 e13 => ?_)
  refine lv_bipush (v := 10) hx hb dX8_beatsOf_14 (by decide) ?_
  refine lv_irem hx hb dX8_beatsOf_16 (by decide) ?_
  refine lv_topi (fun x16 e16 => ?_)
  exact xk_reti () hx hb hr hlocks (xk_P hP (by rfl)) (by rw [e16, e13]; rfl) hS dX8_beatsOf_17 hQ

set_option maxHeartbeats 4000000 in
set_option maxRecDepth 100000 in
theorem c_X8_hasMark (l : Launch) (D : va_G) (cI cZ cS : ClassId) (h h1 h2 h3 h4 h5 h6 h7 h8 : Nat) (gst gty gse gte gsp gtl : Int32) (z : Nat → Int32) (p1 p2 : Int32) (hg : 0 ≤ p1.toInt ∧ p1.toInt ≤ 9) (hf : 0 ≤ p2.toInt ∧ p2.toInt ≤ 11) : xMi l yX8_hasMark cX8_hasMark 3 (some .boolean) ({ frames := 0, cells := 0, slots := 0, locals := 0 } : Room) D (xTy cI cZ cS) [.ref h, .int p1, .int p2] [(h, .inr (8, [.ref h1, .ref h2, .ref h3, .int gst, .ref h4, .ref h5, .ref h6, .int gty, .int gse, .int gte, .int gsp, .ref h7, .ref h8, .int gtl])), (h1, .inl (cI, 190, .inl z))] (fun (r : Int32) (_ : Unit) => ((r = 1 ∧ (mkZ z p1.toInt.toNat p2.toInt.toNat)) ∨ (r = 0 ∧ ¬ (mkZ z p1.toInt.toNat p2.toInt.toNat)))) (fun (_ : Unit) => [(h, .inr (8, [.ref h1, .ref h2, .ref h3, .int gst, .ref h4, .ref h5, .ref h6, .int gty, .int gse, .int gte, .int gsp, .ref h7, .ref h8, .int gtl])), (h1, .inl (cI, 190, .inl z))]) := by
  refine xk_bodyi (by decide) (Nat.le_of_ble_eq_true rfl) ?_
  intro p e s m below meth c A ls args Q hx hb hr hts hown hlocks hml hin hK hP hD hS hA hN hZ hl hQ
  have hl : lv_has ls 3 [(0, .ref h), (1, .int p1), (2, .int p2)] := hl
  refine lv_aload_n hx hb dX8_hasMark_0 rfl (lv_at hl 0 rfl) ?_
  refine va_get (D := D) (ci := 8) (v := .ref h1) (C := RX8) (T := TX8) (N := 14) hx hb hts xin8 hown hK hP 0 rfl rfl 0 (by decide) (hts _ (List.mem_cons_of_mem _ mw_3_85)) (fun _ h9 => h9) rfl dX8_hasMark_1 ?_
  refine lv_bipush (v := 18) hx hb dX8_hasMark_4 (by decide) ?_
  refine lv_bipush (v := 12) hx hb dX8_hasMark_6 (by decide) ?_
  refine lv_iload_n hx hb dX8_hasMark_8 rfl (lv_at hl 1 rfl) ?_
  refine lv_imul hx hb dX8_hasMark_9 ?_
  refine lv_topi (fun x9 e9 => ?_)
  have t9 : x9.toInt = 12 * p1.toInt := by rw [e9]; exact xi_mul (by decide) rfl (by omega) (by omega)
  refine lv_iadd hx hb dX8_hasMark_10 ?_
  refine lv_topi (fun x10 e10 => ?_)
  have t10 : x10.toInt = 18 + x9.toInt := by rw [e10]; exact xi_add (by decide) rfl (by omega) (by omega)
  refine lv_iload_n hx hb dX8_hasMark_11 rfl (lv_at hl 2 rfl) ?_
  refine lv_iadd hx hb dX8_hasMark_12 ?_
  refine lv_topi (fun x12 e12 => ?_)
  have t12 : x12.toInt = x10.toInt + p2.toInt := by rw [e12]; exact xi_add rfl rfl (by omega) (by omega)
  refine va_iald hx hb hK hP 1 0 rfl rfl (xi_in (by omega) (by omega)) dX8_hasMark_13 ?_
  refine xk_top (z := z (12 * p1.toInt.toNat + p2.toInt.toNat + 18)) (xk_rd (by omega)) ?_
  refine lv_topi (fun x13 e13 => ?_)
  refine lv_bipush (v := 9) hx hb dX8_hasMark_14 (by decide) ?_
  refine lv_icmp_le (tgt := 23) hx hb dX8_hasMark_16 (by decide) (fun c16 => ?_) (fun c16 => ?_)
  · have t16 : x13.toInt ≤ 9 := xi_le rfl (by decide) c16
    refine lv_iconst (v := 0) hx hb dX8_hasMark_23 (by decide) ?_
    exact xk_retz () hx hb hr hlocks (by decide) (xk_P hP (by rfl)) (by rw [e13] at t16; first | exact Or.inl ⟨rfl, by assumption⟩ | exact Or.inr ⟨rfl, by omega⟩) hS dX8_hasMark_24 hQ
  · have t16 : 9 < x13.toInt := xi_nle rfl (by decide) c16
    refine lv_iconst (v := 1) hx hb dX8_hasMark_19 (by decide) ?_
    refine lv_goto (tgt := 24) hx hb dX8_hasMark_20 (by decide) ?_
    exact xk_retz () hx hb hr hlocks (by decide) (xk_P hP (by rfl)) (by rw [e13] at t16; first | exact Or.inl ⟨rfl, by assumption⟩ | exact Or.inr ⟨rfl, by omega⟩) hS dX8_hasMark_24 hQ

set_option maxHeartbeats 4000000 in
set_option maxRecDepth 100000 in
theorem c_X8_canMarch (l : Launch) (D : va_G) (cI cZ cS : ClassId) (h h1 h2 h3 h4 h5 h6 h7 h8 : Nat) (gst gty gse gte gsp gtl : Int32) (z : Nat → Int32)   : xMi l yX8_canMarch cX8_canMarch 1 (some .boolean) ({ frames := 0, cells := 0, slots := 0, locals := 0 } : Room) D (xTy cI cZ cS) [.ref h] [(h, .inr (8, [.ref h1, .ref h2, .ref h3, .int gst, .ref h4, .ref h5, .ref h6, .int gty, .int gse, .int gte, .int gsp, .ref h7, .ref h8, .int gtl])), (h1, .inl (cI, 190, .inl z))] (fun (r : Int32) (_ : Unit) => ((r = 1 ∧ (canZ z)) ∨ (r = 0 ∧ ¬ (canZ z)))) (fun (_ : Unit) => [(h, .inr (8, [.ref h1, .ref h2, .ref h3, .int gst, .ref h4, .ref h5, .ref h6, .int gty, .int gse, .int gte, .int gsp, .ref h7, .ref h8, .int gtl])), (h1, .inl (cI, 190, .inl z))]) := by
  refine xk_bodyi (by decide) (Nat.le_of_ble_eq_true rfl) ?_
  intro p e s m below meth c A ls args Q hx hb hr hts hown hlocks hml hin hK hP hD hS hA hN hZ hl hQ
  have hl : lv_has ls 1 [(0, .ref h)] := hl
  refine lv_aload_n hx hb dX8_canMarch_0 rfl (lv_at hl 0 rfl) ?_
  refine va_get (D := D) (ci := 8) (v := .ref h1) (C := RX8) (T := TX8) (N := 14) hx hb hts xin8 hown hK hP 0 rfl rfl 0 (by decide) (hts _ (List.mem_cons_of_mem _ mw_3_85)) (fun _ h9 => h9) rfl dX8_canMarch_1 ?_
  refine lv_bipush (v := 6) hx hb dX8_canMarch_4 (by decide) ?_
  refine va_iald hx hb hK hP 1 0 rfl rfl (xi_in (by decide) (by decide)) dX8_canMarch_6 ?_
  refine xk_top (z := z 6) rfl ?_
  refine lv_if_le (tgt := 24) hx hb dX8_canMarch_7 (by decide) (fun c7 => ?_) (fun c7 => ?_)
  · have t7 : (z 6).toInt ≤ 0 := xi_le rfl (by decide) c7
    refine lv_iconst (v := 0) hx hb dX8_canMarch_24 (by decide) ?_
    exact xk_retz () hx hb hr hlocks (by decide) (xk_P hP (by rfl)) (by first | exact Or.inl ⟨rfl, by omega⟩ | exact Or.inr ⟨rfl, by omega⟩) hS dX8_canMarch_25 hQ
  · have t7 : 0 < (z 6).toInt := xi_nle rfl (by decide) c7
    refine lv_aload_n hx hb dX8_canMarch_10 rfl (lv_at hl 0 rfl) ?_
    refine va_get (D := D) (ci := 8) (v := .ref h1) (C := RX8) (T := TX8) (N := 14) hx hb hts xin8 hown hK hP 0 rfl rfl 0 (by decide) (hts _ (List.mem_cons_of_mem _ mw_3_85)) (fun _ h9 => h9) rfl dX8_canMarch_11 ?_
    refine lv_bipush (v := 7) hx hb dX8_canMarch_14 (by decide) ?_
    refine va_iald hx hb hK hP 1 0 rfl rfl (xi_in (by decide) (by decide)) dX8_canMarch_16 ?_
    refine xk_top (z := z 7) rfl ?_
    refine lv_if_le (tgt := 24) hx hb dX8_canMarch_17 (by decide) (fun c17 => ?_) (fun c17 => ?_)
    · have t17 : (z 7).toInt ≤ 0 := xi_le rfl (by decide) c17
      refine lv_iconst (v := 0) hx hb dX8_canMarch_24 (by decide) ?_
      exact xk_retz () hx hb hr hlocks (by decide) (xk_P hP (by rfl)) (by first | exact Or.inl ⟨rfl, by omega⟩ | exact Or.inr ⟨rfl, by omega⟩) hS dX8_canMarch_25 hQ
    · have t17 : 0 < (z 7).toInt := xi_nle rfl (by decide) c17
      refine lv_iconst (v := 1) hx hb dX8_canMarch_20 (by decide) ?_
      refine lv_goto (tgt := 25) hx hb dX8_canMarch_21 (by decide) ?_
      exact xk_retz () hx hb hr hlocks (by decide) (xk_P hP (by rfl)) (by first | exact Or.inl ⟨rfl, by omega⟩ | exact Or.inr ⟨rfl, by omega⟩) hS dX8_canMarch_25 hQ

set_option maxHeartbeats 4000000 in
set_option maxRecDepth 100000 in
theorem c_X8_climb (l : Launch) (D : va_G) (cI cZ cS : ClassId) (h h1 h2 h3 h4 h5 h6 h7 h8 : Nat) (gst gty gse gte gsp gtl : Int32) (z : Nat → Int32)  (ha : atZ z) : xMi l yX8_climb cX8_climb 2 (some .int) ({ frames := 1, cells := 0, slots := 0, locals := 22 } : Room) D (xTy cI cZ cS) [.ref h] [(h, .inr (8, [.ref h1, .ref h2, .ref h3, .int gst, .ref h4, .ref h5, .ref h6, .int gty, .int gse, .int gte, .int gsp, .ref h7, .ref h8, .int gtl])), (h1, .inl (cI, 190, .inl z))] (fun (r : Int32) (_ : Unit) => r = climbZ z) (fun (_ : Unit) => [(h, .inr (8, [.ref h1, .ref h2, .ref h3, .int gst, .ref h4, .ref h5, .ref h6, .int gty, .int gse, .int gte, .int gsp, .ref h7, .ref h8, .int gtl])), (h1, .inl (cI, 190, .inl z))]) := by
  refine xk_bodyi (by decide) (Nat.le_of_ble_eq_true rfl) ?_
  intro p e s m below meth c A ls args Q hx hb hr hts hown hlocks hml hin hK hP hD hS hA hN hZ hl hQ
  have hl : lv_has ls 2 [(0, .ref h)] := hl
  obtain ⟨ha1, ha2⟩ := ha
  refine lv_aload_n hx hb dX8_climb_0 rfl (lv_at hl 0 rfl) ?_
  refine lv_aload_n hx hb dX8_climb_1 rfl (lv_at hl 0 rfl) ?_
  refine va_get (D := D) (ci := 8) (v := .ref h1) (C := RX8) (T := TX8) (N := 14) hx hb hts xin8 hown hK hP 0 rfl rfl 0 (by decide) (hts _ (List.mem_cons_of_mem _ mw_3_85)) (fun _ h9 => h9) rfl dX8_climb_2 ?_
  refine lv_sipush (v := 179) hx hb dX8_climb_5 (by decide) ?_
  refine va_iald hx hb hK hP 1 0 rfl rfl (xi_in (by decide) (by decide)) dX8_climb_8 ?_
  refine xk_top (z := z 179) rfl ?_
  refine lv_iconst (v := 1) hx hb dX8_climb_9 (by decide) ?_
  refine xk_Vi (As := [.int (z 179), .int 1]) (rest := []) hx hb hml hown hts hK hN hZ hP hD hS hA mb_X8_ofStretch mw_3_170 mw_3_172 mw_0_10 (c_X8_ofStretch l D cI cZ cS h h1 h2 h3 h4 h5 h6 h7 h8 gst gty gse gte gsp gtl z (z 179) (1 : Int32) (by first | omega | decide | assumption) (by first | omega | decide | assumption)) [0, 1] 0 8 rfl rfl (by decide) rfl (fun _ => rfl) (by decide) (by decide) rfl hl.1 rfl (Nat.le_of_ble_eq_true rfl) dX8_climb_10 ⟨Nat.zero_le _, Nat.zero_le _⟩ (fun r10 _ H locs hw hP hD hS => ?_)
  have hP : va_P D vwCl [(h, .inr (8, [.ref h1, .ref h2, .ref h3, .int gst, .ref h4, .ref h5, .ref h6, .int gty, .int gse, .int gte, .int gsp, .ref h7, .ref h8, .int gtl])), (h1, .inl (cI, 190, .inl z))] H := hP
  have hD : va_D A [(h, .inr (8, [.ref h1, .ref h2, .ref h3, .int gst, .ref h4, .ref h5, .ref h6, .int gty, .int gse, .int gte, .int gsp, .ref h7, .ref h8, .int gtl])), (h1, .inl (cI, 190, .inl z))] := hD
  have e10 : r10 = ofZ z (z 179).toInt.toNat 1 := hw
  refine lv_istore_n (lv' := [(1, .int r10), (0, .ref h)]) hx hb dX8_climb_13 rfl hl (by decide) rfl (fun ls hl => ?_)
  refine lv_iload_n hx hb dX8_climb_14 rfl (lv_at hl 0 rfl) ?_
  refine lv_if_le (tgt := 22) hx hb dX8_climb_15 (by decide) (fun c15 => ?_) (fun c15 => ?_)
  · have t15 : r10.toInt ≤ 0 := xi_le rfl (by decide) c15
    refine lv_iconst (v := 0) hx hb dX8_climb_22 (by decide) ?_
    exact xk_reti () hx hb hr hlocks (xk_P hP (by rfl)) (by unfold climbZ; rw [← e10]; split <;> first | rfl | omega) hS dX8_climb_23 hQ
  · have t15 : 0 < r10.toInt := xi_nle rfl (by decide) c15
    refine lv_iload_n hx hb dX8_climb_18 rfl (lv_at hl 0 rfl) ?_
    refine lv_goto (tgt := 23) hx hb dX8_climb_19 (by decide) ?_
    exact xk_reti () hx hb hr hlocks (xk_P hP (by rfl)) (by unfold climbZ; rw [← e10]; split <;> first | rfl | omega) hS dX8_climb_23 hQ

set_option maxHeartbeats 4000000 in
set_option maxRecDepth 100000 in
theorem c_X8_step (l : Launch) (D : va_G) (cI cZ cS : ClassId) (h h1 h2 h3 h4 h5 h6 h7 h8 : Nat) (gst gty gse gte gsp gtl : Int32) (z : Nat → Int32)  (ha : atZ z) (h5m : ¬ z 5 = 0) : xMv l yX8_step cX8_step 1 none ({ frames := 1, cells := 0, slots := 0, locals := 22 } : Room) D (xTy cI cZ cS) [.ref h] [(h, .inr (8, [.ref h1, .ref h2, .ref h3, .int gst, .ref h4, .ref h5, .ref h6, .int gty, .int gse, .int gte, .int gsp, .ref h7, .ref h8, .int gtl])), (h1, .inl (cI, 190, .inl z))] (fun (_ : Unit) => True) (fun (_ : Unit) => [(h, .inr (8, [.ref h1, .ref h2, .ref h3, .int gst, .ref h4, .ref h5, .ref h6, .int gty, .int gse, .int (if (¬ skipZ z ∧ fullZ z) then 1 else gte), .int gsp, .ref h7, .ref h8, .int gtl])), (h1, .inl (cI, 190, .inl (stepZ z)))]) := by
  refine xk_bodyv (by decide) (Nat.le_of_ble_eq_true rfl) ?_
  intro p e s m below meth c A ls args Q hx hb hr hts hown hlocks hml hin hK hP hD hS hA hN hZ hl hQ
  have hl : lv_has ls 1 [(0, .ref h)] := hl
  obtain ⟨ha1, ha2⟩ := ha
  refine lv_aload_n hx hb dX8_step_0 rfl (lv_at hl 0 rfl) ?_
  refine va_get (D := D) (ci := 8) (v := .ref h1) (C := RX8) (T := TX8) (N := 14) hx hb hts xin8 hown hK hP 0 rfl rfl 0 (by decide) (hts _ (List.mem_cons_of_mem _ mw_3_85)) (fun _ h9 => h9) rfl dX8_step_1 ?_
  refine lv_sipush (v := 189) hx hb dX8_step_4 (by decide) ?_
  refine lv_dup2_11 hx hb dX8_step_7 rfl rfl ?_
  refine va_iald hx hb hK hP 1 0 rfl rfl (xi_in (by decide) (by decide)) dX8_step_8 ?_
  refine xk_top (z := z 189) rfl ?_
  refine lv_iconst (v := 1) hx hb dX8_step_9 (by decide) ?_
  refine lv_iadd hx hb dX8_step_10 ?_
  refine lv_topi (fun x10 e10 => ?_)
  refine va_iast hx hb hK hP hD hS 1 0 rfl rfl (xi_in (by decide) (by decide)) dX8_step_11 (fun H locs hP hD hS => ?_)
  have hP : va_P D vwCl [(h, .inr (8, [.ref h1, .ref h2, .ref h3, .int gst, .ref h4, .ref h5, .ref h6, .int gty, .int gse, .int gte, .int gsp, .ref h7, .ref h8, .int gtl])), (h1, .inl (cI, 190, .inl (upd z 189 x10)))] H := hP
  have hD : va_D A [(h, .inr (8, [.ref h1, .ref h2, .ref h3, .int gst, .ref h4, .ref h5, .ref h6, .int gty, .int gse, .int gte, .int gsp, .ref h7, .ref h8, .int gtl])), (h1, .inl (cI, 190, .inl (upd z 189 x10)))] := hD
  refine lv_aload_n hx hb dX8_step_12 rfl (lv_at hl 0 rfl) ?_
  refine lv_aload_n hx hb dX8_step_13 rfl (lv_at hl 0 rfl) ?_
  refine va_get (D := D) (ci := 8) (v := .ref h1) (C := RX8) (T := TX8) (N := 14) hx hb hts xin8 hown hK hP 0 rfl rfl 0 (by decide) (hts _ (List.mem_cons_of_mem _ mw_3_85)) (fun _ h9 => h9) rfl dX8_step_14 ?_
  refine lv_sipush (v := 179) hx hb dX8_step_17 (by decide) ?_
  refine va_iald hx hb hK hP 1 0 rfl rfl (xi_in (by decide) (by decide)) dX8_step_20 ?_
  refine xk_top (z := z 179) rfl ?_
  refine lv_iconst (v := 2) hx hb dX8_step_21 (by decide) ?_
  refine xk_Vi (As := [.int (z 179), .int 2]) (rest := []) hx hb hml hown hts hK hN hZ hP hD hS hA mb_X8_ofStretch mw_3_170 mw_3_172 mw_0_10 (c_X8_ofStretch l D cI cZ cS h h1 h2 h3 h4 h5 h6 h7 h8 gst gty gse gte gsp gtl (upd z 189 x10) (z 179) (2 : Int32) (by first | omega | decide | assumption) (by first | omega | decide | assumption)) [0, 1] 0 8 rfl rfl (by decide) rfl (fun _ => rfl) (by decide) (by decide) rfl hl.1 rfl (Nat.le_of_ble_eq_true rfl) dX8_step_22 ⟨Nat.zero_le _, Nat.zero_le _⟩ (fun r22 _ H locs hw hP hD hS => ?_)
  have hP : va_P D vwCl [(h, .inr (8, [.ref h1, .ref h2, .ref h3, .int gst, .ref h4, .ref h5, .ref h6, .int gty, .int gse, .int gte, .int gsp, .ref h7, .ref h8, .int gtl])), (h1, .inl (cI, 190, .inl (upd z 189 x10)))] H := hP
  have hD : va_D A [(h, .inr (8, [.ref h1, .ref h2, .ref h3, .int gst, .ref h4, .ref h5, .ref h6, .int gty, .int gse, .int gte, .int gsp, .ref h7, .ref h8, .int gtl])), (h1, .inl (cI, 190, .inl (upd z 189 x10)))] := hD
  have e22 : r22 = ofZ (upd z 189 x10) (z 179).toInt.toNat 2 := hw
  have e22 : r22 = ofZ z ((z 179).toInt.toNat) 2 := by rw [e22, ofZ_upd _ _ (by omega)]
  refine lv_iconst (v := 1) hx hb dX8_step_25 (by decide) ?_
  refine lv_icmp_ne (tgt := 60) hx hb dX8_step_26 (by decide) (fun c26 => ?_) (fun c26 => ?_)
  · have t26 : ¬ r22.toInt = 1 := xi_ne rfl (by decide) c26
    have d26 : ¬ r22 = 1 := c26
    refine lv_aload_n hx hb dX8_step_60 rfl (lv_at hl 0 rfl) ?_
    refine va_get (D := D) (ci := 8) (v := .ref h1) (C := RX8) (T := TX8) (N := 14) hx hb hts xin8 hown hK hP 0 rfl rfl 0 (by decide) (hts _ (List.mem_cons_of_mem _ mw_3_85)) (fun _ h9 => h9) rfl dX8_step_61 ?_
    refine lv_sipush (v := 180) hx hb dX8_step_64 (by decide) ?_
    refine lv_dup2_11 hx hb dX8_step_67 rfl rfl ?_
    refine va_iald hx hb hK hP 1 0 rfl rfl (xi_in (by decide) (by decide)) dX8_step_68 ?_
    refine xk_top (z := z 180) rfl ?_
    refine lv_iconst (v := 1) hx hb dX8_step_69 (by decide) ?_
    refine lv_iadd hx hb dX8_step_70 ?_
    refine lv_topi (fun x70 e70 => ?_)
    refine va_iast hx hb hK hP hD hS 1 0 rfl rfl (xi_in (by decide) (by decide)) dX8_step_71 (fun H locs hP hD hS => ?_)
    have hP : va_P D vwCl [(h, .inr (8, [.ref h1, .ref h2, .ref h3, .int gst, .ref h4, .ref h5, .ref h6, .int gty, .int gse, .int gte, .int gsp, .ref h7, .ref h8, .int gtl])), (h1, .inl (cI, 190, .inl (upd (upd z 189 x10) 180 x70)))] H := hP
    have hD : va_D A [(h, .inr (8, [.ref h1, .ref h2, .ref h3, .int gst, .ref h4, .ref h5, .ref h6, .int gty, .int gse, .int gte, .int gsp, .ref h7, .ref h8, .int gtl])), (h1, .inl (cI, 190, .inl (upd (upd z 189 x10) 180 x70)))] := hD
    refine lv_aload_n hx hb dX8_step_72 rfl (lv_at hl 0 rfl) ?_
    refine va_get (D := D) (ci := 8) (v := .ref h1) (C := RX8) (T := TX8) (N := 14) hx hb hts xin8 hown hK hP 0 rfl rfl 0 (by decide) (hts _ (List.mem_cons_of_mem _ mw_3_85)) (fun _ h9 => h9) rfl dX8_step_73 ?_
    refine lv_sipush (v := 183) hx hb dX8_step_76 (by decide) ?_
    refine lv_dup2_11 hx hb dX8_step_79 rfl rfl ?_
    refine va_iald hx hb hK hP 1 0 rfl rfl (xi_in (by decide) (by decide)) dX8_step_80 ?_
    refine xk_top (z := z 183) rfl ?_
    refine lv_iconst (v := 1) hx hb dX8_step_81 (by decide) ?_
    refine lv_iadd hx hb dX8_step_82 ?_
    refine lv_topi (fun x82 e82 => ?_)
    refine va_iast hx hb hK hP hD hS 1 0 rfl rfl (xi_in (by decide) (by decide)) dX8_step_83 (fun H locs hP hD hS => ?_)
    have hP : va_P D vwCl [(h, .inr (8, [.ref h1, .ref h2, .ref h3, .int gst, .ref h4, .ref h5, .ref h6, .int gty, .int gse, .int gte, .int gsp, .ref h7, .ref h8, .int gtl])), (h1, .inl (cI, 190, .inl (upd (upd (upd z 189 x10) 180 x70) 183 x82)))] H := hP
    have hD : va_D A [(h, .inr (8, [.ref h1, .ref h2, .ref h3, .int gst, .ref h4, .ref h5, .ref h6, .int gty, .int gse, .int gte, .int gsp, .ref h7, .ref h8, .int gtl])), (h1, .inl (cI, 190, .inl (upd (upd (upd z 189 x10) 180 x70) 183 x82)))] := hD
    refine lv_aload_n hx hb dX8_step_84 rfl (lv_at hl 0 rfl) ?_
    refine va_get (D := D) (ci := 8) (v := .ref h1) (C := RX8) (T := TX8) (N := 14) hx hb hts xin8 hown hK hP 0 rfl rfl 0 (by decide) (hts _ (List.mem_cons_of_mem _ mw_3_85)) (fun _ h9 => h9) rfl dX8_step_85 ?_
    refine lv_sipush (v := 180) hx hb dX8_step_88 (by decide) ?_
    refine va_iald hx hb hK hP 1 0 rfl rfl (xi_in (by decide) (by decide)) dX8_step_91 ?_
    refine xk_top (z := x70) rfl ?_
    refine lv_aload_n hx hb dX8_step_92 rfl (lv_at hl 0 rfl) ?_
    refine lv_aload_n hx hb dX8_step_93 rfl (lv_at hl 0 rfl) ?_
    refine va_get (D := D) (ci := 8) (v := .ref h1) (C := RX8) (T := TX8) (N := 14) hx hb hts xin8 hown hK hP 0 rfl rfl 0 (by decide) (hts _ (List.mem_cons_of_mem _ mw_3_85)) (fun _ h9 => h9) rfl dX8_step_94 ?_
    refine lv_sipush (v := 179) hx hb dX8_step_97 (by decide) ?_
    refine va_iald hx hb hK hP 1 0 rfl rfl (xi_in (by decide) (by decide)) dX8_step_100 ?_
    refine xk_top (z := z 179) rfl ?_
    refine lv_iconst (v := 0) hx hb dX8_step_101 (by decide) ?_
    refine xk_Vi (As := [.int (z 179), .int 0]) (rest := [.int x70]) hx hb hml hown hts hK hN hZ hP hD hS hA mb_X8_ofStretch mw_3_170 mw_3_172 mw_0_10 (c_X8_ofStretch l D cI cZ cS h h1 h2 h3 h4 h5 h6 h7 h8 gst gty gse gte gsp gtl (upd (upd (upd z 189 x10) 180 x70) 183 x82) (z 179) (0 : Int32) (by first | omega | decide | assumption) (by first | omega | decide | assumption)) [0, 1] 0 8 rfl rfl (by decide) rfl (fun _ => rfl) (by decide) (by decide) rfl hl.1 rfl (Nat.le_of_ble_eq_true rfl) dX8_step_102 ⟨Nat.zero_le _, Nat.zero_le _⟩ (fun r102 _ H locs hw hP hD hS => ?_)
    have hP : va_P D vwCl [(h, .inr (8, [.ref h1, .ref h2, .ref h3, .int gst, .ref h4, .ref h5, .ref h6, .int gty, .int gse, .int gte, .int gsp, .ref h7, .ref h8, .int gtl])), (h1, .inl (cI, 190, .inl (upd (upd (upd z 189 x10) 180 x70) 183 x82)))] H := hP
    have hD : va_D A [(h, .inr (8, [.ref h1, .ref h2, .ref h3, .int gst, .ref h4, .ref h5, .ref h6, .int gty, .int gse, .int gte, .int gsp, .ref h7, .ref h8, .int gtl])), (h1, .inl (cI, 190, .inl (upd (upd (upd z 189 x10) 180 x70) 183 x82)))] := hD
    have e102 : r102 = ofZ (upd (upd (upd z 189 x10) 180 x70) 183 x82) (z 179).toInt.toNat 0 := hw
    have e102 : r102 = ofZ z ((z 179).toInt.toNat) 0 := by rw [e102, ofZ_upd _ _ (by omega), ofZ_upd _ _ (by omega), ofZ_upd _ _ (by omega)]
    refine lv_icmp_ne (tgt := 174) hx hb dX8_step_105 (by decide) (fun c105 => ?_) (fun c105 => ?_)
    · have t105 : ¬ x70.toInt = r102.toInt := xi_ne rfl rfl c105
      have d105 : ¬ x70 = r102 := c105
      have hk : ¬ skipZ z := by subst e102 e82 e70 e22 e10; exact fun hh => d26 hh.1
      have hu : ¬ fullZ z := by subst e102 e82 e70 e22 e10; exact d105
      have hz : (upd (upd (upd z 189 x10) 180 x70) 183 x82) = stepZ z := by subst e102 e82 e70 e22 e10; rw [stepZ, if_neg hk, if_neg hu]
      have hg : gte = if (¬ skipZ z ∧ fullZ z) then 1 else gte := by rw [if_neg (fun hh => hu hh.2)]
      exact xk_retv () hx hb hr hlocks (xk_P hP (by rw [hz, ← hg])) (by trivial) hS dX8_step_174 hQ
    · have t105 : x70.toInt = r102.toInt := xi_eq rfl rfl c105
      have d105 : x70 = r102 := c105
      refine lv_aload_n hx hb dX8_step_108 rfl (lv_at hl 0 rfl) ?_
      refine lv_iconst (v := 1) hx hb dX8_step_109 (by decide) ?_
      refine va_put (D := D) (ci := 8) (v := .int 1) (ty := .boolean) (C := RX8) (T := TX8) (N := 14) hx hb hts xin8 tyX8 tyX8_ok nmX8 hown hK hP hD hS 0 rfl rfl 9 (by decide) (hts _ (List.mem_cons_of_mem _ mw_3_94)) (fun _ h9 => h9) rfl (by decide +kernel) rfl rfl (Nat.le_of_ble_eq_true rfl) dX8_step_110 (fun H locs hP hD hS => ?_)
      have hP : va_P D vwCl [(h, .inr (8, [.ref h1, .ref h2, .ref h3, .int gst, .ref h4, .ref h5, .ref h6, .int gty, .int gse, .int 1, .int gsp, .ref h7, .ref h8, .int gtl])), (h1, .inl (cI, 190, .inl (upd (upd (upd z 189 x10) 180 x70) 183 x82)))] H := hP
      have hD : va_D A [(h, .inr (8, [.ref h1, .ref h2, .ref h3, .int gst, .ref h4, .ref h5, .ref h6, .int gty, .int gse, .int 1, .int gsp, .ref h7, .ref h8, .int gtl])), (h1, .inl (cI, 190, .inl (upd (upd (upd z 189 x10) 180 x70) 183 x82)))] := hD
      refine lv_aload_n hx hb dX8_step_113 rfl (lv_at hl 0 rfl) ?_
      refine va_get (D := D) (ci := 8) (v := .ref h1) (C := RX8) (T := TX8) (N := 14) hx hb hts xin8 hown hK hP 0 rfl rfl 0 (by decide) (hts _ (List.mem_cons_of_mem _ mw_3_85)) (fun _ h9 => h9) rfl dX8_step_114 ?_
      refine lv_sipush (v := 179) hx hb dX8_step_117 (by decide) ?_
      refine lv_dup2_11 hx hb dX8_step_120 rfl rfl ?_
      refine va_iald hx hb hK hP 1 0 rfl rfl (xi_in (by decide) (by decide)) dX8_step_121 ?_
      refine xk_top (z := z 179) rfl ?_
      refine lv_iconst (v := 1) hx hb dX8_step_122 (by decide) ?_
      refine lv_iadd hx hb dX8_step_123 ?_
      refine lv_topi (fun x123 e123 => ?_)
      refine va_iast hx hb hK hP hD hS 1 0 rfl rfl (xi_in (by decide) (by decide)) dX8_step_124 (fun H locs hP hD hS => ?_)
      have hP : va_P D vwCl [(h, .inr (8, [.ref h1, .ref h2, .ref h3, .int gst, .ref h4, .ref h5, .ref h6, .int gty, .int gse, .int 1, .int gsp, .ref h7, .ref h8, .int gtl])), (h1, .inl (cI, 190, .inl (upd (upd (upd (upd z 189 x10) 180 x70) 183 x82) 179 x123)))] H := hP
      have hD : va_D A [(h, .inr (8, [.ref h1, .ref h2, .ref h3, .int gst, .ref h4, .ref h5, .ref h6, .int gty, .int gse, .int 1, .int gsp, .ref h7, .ref h8, .int gtl])), (h1, .inl (cI, 190, .inl (upd (upd (upd (upd z 189 x10) 180 x70) 183 x82) 179 x123)))] := hD
      refine lv_aload_n hx hb dX8_step_125 rfl (lv_at hl 0 rfl) ?_
      refine va_get (D := D) (ci := 8) (v := .ref h1) (C := RX8) (T := TX8) (N := 14) hx hb hts xin8 hown hK hP 0 rfl rfl 0 (by decide) (hts _ (List.mem_cons_of_mem _ mw_3_85)) (fun _ h9 => h9) rfl dX8_step_126 ?_
      refine lv_sipush (v := 180) hx hb dX8_step_129 (by decide) ?_
      refine lv_iconst (v := 0) hx hb dX8_step_132 (by decide) ?_
      refine va_iast hx hb hK hP hD hS 1 0 rfl rfl (xi_in (by decide) (by decide)) dX8_step_133 (fun H locs hP hD hS => ?_)
      have hP : va_P D vwCl [(h, .inr (8, [.ref h1, .ref h2, .ref h3, .int gst, .ref h4, .ref h5, .ref h6, .int gty, .int gse, .int 1, .int gsp, .ref h7, .ref h8, .int gtl])), (h1, .inl (cI, 190, .inl (upd (upd (upd (upd (upd z 189 x10) 180 x70) 183 x82) 179 x123) 180 0)))] H := hP
      have hD : va_D A [(h, .inr (8, [.ref h1, .ref h2, .ref h3, .int gst, .ref h4, .ref h5, .ref h6, .int gty, .int gse, .int 1, .int gsp, .ref h7, .ref h8, .int gtl])), (h1, .inl (cI, 190, .inl (upd (upd (upd (upd (upd z 189 x10) 180 x70) 183 x82) 179 x123) 180 0)))] := hD
      refine lv_aload_n hx hb dX8_step_134 rfl (lv_at hl 0 rfl) ?_
      refine va_get (D := D) (ci := 8) (v := .ref h1) (C := RX8) (T := TX8) (N := 14) hx hb hts xin8 hown hK hP 0 rfl rfl 0 (by decide) (hts _ (List.mem_cons_of_mem _ mw_3_85)) (fun _ h9 => h9) rfl dX8_step_135 ?_
      refine lv_sipush (v := 189) hx hb dX8_step_138 (by decide) ?_
      refine lv_iconst (v := 0) hx hb dX8_step_141 (by decide) ?_
      refine va_iast hx hb hK hP hD hS 1 0 rfl rfl (xi_in (by decide) (by decide)) dX8_step_142 (fun H locs hP hD hS => ?_)
      have hP : va_P D vwCl [(h, .inr (8, [.ref h1, .ref h2, .ref h3, .int gst, .ref h4, .ref h5, .ref h6, .int gty, .int gse, .int 1, .int gsp, .ref h7, .ref h8, .int gtl])), (h1, .inl (cI, 190, .inl (upd (upd (upd (upd (upd (upd z 189 x10) 180 x70) 183 x82) 179 x123) 180 0) 189 0)))] H := hP
      have hD : va_D A [(h, .inr (8, [.ref h1, .ref h2, .ref h3, .int gst, .ref h4, .ref h5, .ref h6, .int gty, .int gse, .int 1, .int gsp, .ref h7, .ref h8, .int gtl])), (h1, .inl (cI, 190, .inl (upd (upd (upd (upd (upd (upd z 189 x10) 180 x70) 183 x82) 179 x123) 180 0) 189 0)))] := hD
      refine lv_aload_n hx hb dX8_step_143 rfl (lv_at hl 0 rfl) ?_
      refine va_get (D := D) (ci := 8) (v := .ref h1) (C := RX8) (T := TX8) (N := 14) hx hb hts xin8 hown hK hP 0 rfl rfl 0 (by decide) (hts _ (List.mem_cons_of_mem _ mw_3_85)) (fun _ h9 => h9) rfl dX8_step_144 ?_
      refine lv_sipush (v := 188) hx hb dX8_step_147 (by decide) ?_
      refine lv_aload_n hx hb dX8_step_150 rfl (lv_at hl 0 rfl) ?_
      refine va_get (D := D) (ci := 8) (v := .ref h1) (C := RX8) (T := TX8) (N := 14) hx hb hts xin8 hown hK hP 0 rfl rfl 0 (by decide) (hts _ (List.mem_cons_of_mem _ mw_3_85)) (fun _ h9 => h9) rfl dX8_step_151 ?_
      refine lv_sipush (v := 179) hx hb dX8_step_154 (by decide) ?_
      refine va_iald hx hb hK hP 1 0 rfl rfl (xi_in (by decide) (by decide)) dX8_step_157 ?_
      refine xk_top (z := x123) rfl ?_
      refine lv_aload_n hx hb dX8_step_158 rfl (lv_at hl 0 rfl) ?_
      refine va_get (D := D) (ci := 8) (v := .ref h1) (C := RX8) (T := TX8) (N := 14) hx hb hts xin8 hown hK hP 0 rfl rfl 0 (by decide) (hts _ (List.mem_cons_of_mem _ mw_3_85)) (fun _ h9 => h9) rfl dX8_step_159 ?_
      refine lv_bipush (v := 7) hx hb dX8_step_162 (by decide) ?_
      refine va_iald hx hb hK hP 1 0 rfl rfl (xi_in (by decide) (by decide)) dX8_step_164 ?_
      refine xk_top (z := z 7) rfl ?_
      refine lv_icmp_ne (tgt := 172) hx hb dX8_step_165 (by decide) (fun c165 => ?_) (fun c165 => ?_)
      · have t165 : ¬ x123.toInt = (z 7).toInt := xi_ne rfl rfl c165
        have d165 : ¬ x123 = (z 7) := c165
        refine lv_iconst (v := 0) hx hb dX8_step_172 (by decide) ?_
        refine va_iast hx hb hK hP hD hS 1 0 rfl rfl (xi_in (by decide) (by decide)) dX8_step_173 (fun H locs hP hD hS => ?_)
        have hP : va_P D vwCl [(h, .inr (8, [.ref h1, .ref h2, .ref h3, .int gst, .ref h4, .ref h5, .ref h6, .int gty, .int gse, .int 1, .int gsp, .ref h7, .ref h8, .int gtl])), (h1, .inl (cI, 190, .inl (upd (upd (upd (upd (upd (upd (upd z 189 x10) 180 x70) 183 x82) 179 x123) 180 0) 189 0) 188 0)))] H := hP
        have hD : va_D A [(h, .inr (8, [.ref h1, .ref h2, .ref h3, .int gst, .ref h4, .ref h5, .ref h6, .int gty, .int gse, .int 1, .int gsp, .ref h7, .ref h8, .int gtl])), (h1, .inl (cI, 190, .inl (upd (upd (upd (upd (upd (upd (upd z 189 x10) 180 x70) 183 x82) 179 x123) 180 0) 189 0) 188 0)))] := hD
        have hk : ¬ skipZ z := by subst e123 e102 e82 e70 e22 e10; exact fun hh => d26 hh.1
        have hu : fullZ z := by subst e123 e102 e82 e70 e22 e10; exact d105
        have hz : (upd (upd (upd (upd (upd (upd (upd z 189 x10) 180 x70) 183 x82) 179 x123) 180 0) 189 0) 188 0) = stepZ z := by subst e123 e102 e82 e70 e22 e10; rw [stepZ, if_neg hk, if_pos hu, if_neg d165]
        have hg : 1 = if (¬ skipZ z ∧ fullZ z) then 1 else gte := by rw [if_pos ⟨hk, hu⟩]
        exact xk_retv () hx hb hr hlocks (xk_P hP (by rw [hz, ← hg])) (by trivial) hS dX8_step_174 hQ
      · have t165 : x123.toInt = (z 7).toInt := xi_eq rfl rfl c165
        have d165 : x123 = (z 7) := c165
        refine lv_iconst (v := 1) hx hb dX8_step_168 (by decide) ?_
        refine lv_goto (tgt := 173) hx hb dX8_step_169 (by decide) ?_
        refine va_iast hx hb hK hP hD hS 1 0 rfl rfl (xi_in (by decide) (by decide)) dX8_step_173 (fun H locs hP hD hS => ?_)
        have hP : va_P D vwCl [(h, .inr (8, [.ref h1, .ref h2, .ref h3, .int gst, .ref h4, .ref h5, .ref h6, .int gty, .int gse, .int 1, .int gsp, .ref h7, .ref h8, .int gtl])), (h1, .inl (cI, 190, .inl (upd (upd (upd (upd (upd (upd (upd z 189 x10) 180 x70) 183 x82) 179 x123) 180 0) 189 0) 188 1)))] H := hP
        have hD : va_D A [(h, .inr (8, [.ref h1, .ref h2, .ref h3, .int gst, .ref h4, .ref h5, .ref h6, .int gty, .int gse, .int 1, .int gsp, .ref h7, .ref h8, .int gtl])), (h1, .inl (cI, 190, .inl (upd (upd (upd (upd (upd (upd (upd z 189 x10) 180 x70) 183 x82) 179 x123) 180 0) 189 0) 188 1)))] := hD
        have hk : ¬ skipZ z := by subst e123 e102 e82 e70 e22 e10; exact fun hh => d26 hh.1
        have hu : fullZ z := by subst e123 e102 e82 e70 e22 e10; exact d105
        have hz : (upd (upd (upd (upd (upd (upd (upd z 189 x10) 180 x70) 183 x82) 179 x123) 180 0) 189 0) 188 1) = stepZ z := by subst e123 e102 e82 e70 e22 e10; rw [stepZ, if_neg hk, if_pos hu, if_pos d165]
        have hg : 1 = if (¬ skipZ z ∧ fullZ z) then 1 else gte := by rw [if_pos ⟨hk, hu⟩]
        exact xk_retv () hx hb hr hlocks (xk_P hP (by rw [hz, ← hg])) (by trivial) hS dX8_step_174 hQ
  · have t26 : r22.toInt = 1 := xi_eq rfl (by decide) c26
    have d26 : r22 = 1 := c26
    refine lv_aload_n hx hb dX8_step_29 rfl (lv_at hl 0 rfl) ?_
    refine va_get (D := D) (ci := 8) (v := .ref h1) (C := RX8) (T := TX8) (N := 14) hx hb hts xin8 hown hK hP 0 rfl rfl 0 (by decide) (hts _ (List.mem_cons_of_mem _ mw_3_85)) (fun _ h9 => h9) rfl dX8_step_30 ?_
    refine lv_sipush (v := 189) hx hb dX8_step_33 (by decide) ?_
    refine va_iald hx hb hK hP 1 0 rfl rfl (xi_in (by decide) (by decide)) dX8_step_36 ?_
    refine xk_top (z := x10) rfl ?_
    refine lv_aload_n hx hb dX8_step_37 rfl (lv_at hl 0 rfl) ?_
    refine va_get (D := D) (ci := 8) (v := .ref h1) (C := RX8) (T := TX8) (N := 14) hx hb hts xin8 hown hK hP 0 rfl rfl 0 (by decide) (hts _ (List.mem_cons_of_mem _ mw_3_85)) (fun _ h9 => h9) rfl dX8_step_38 ?_
    refine lv_iconst (v := 5) hx hb dX8_step_41 (by decide) ?_
    refine va_iald hx hb hK hP 1 0 rfl rfl (xi_in (by decide) (by decide)) dX8_step_42 ?_
    refine xk_top (z := z 5) rfl ?_
    refine lv_irem hx hb dX8_step_43 (h5m) ?_
    refine lv_topi (fun x43 e43 => ?_)
    refine lv_if_ne (tgt := 60) hx hb dX8_step_44 (by decide) (fun c44 => ?_) (fun c44 => ?_)
    · have t44 : ¬ x43.toInt = 0 := xi_ne rfl (by decide) c44
      have d44 : ¬ x43 = 0 := c44
      refine lv_aload_n hx hb dX8_step_60 rfl (lv_at hl 0 rfl) ?_
      refine va_get (D := D) (ci := 8) (v := .ref h1) (C := RX8) (T := TX8) (N := 14) hx hb hts xin8 hown hK hP 0 rfl rfl 0 (by decide) (hts _ (List.mem_cons_of_mem _ mw_3_85)) (fun _ h9 => h9) rfl dX8_step_61 ?_
      refine lv_sipush (v := 180) hx hb dX8_step_64 (by decide) ?_
      refine lv_dup2_11 hx hb dX8_step_67 rfl rfl ?_
      refine va_iald hx hb hK hP 1 0 rfl rfl (xi_in (by decide) (by decide)) dX8_step_68 ?_
      refine xk_top (z := z 180) rfl ?_
      refine lv_iconst (v := 1) hx hb dX8_step_69 (by decide) ?_
      refine lv_iadd hx hb dX8_step_70 ?_
      refine lv_topi (fun x70 e70 => ?_)
      refine va_iast hx hb hK hP hD hS 1 0 rfl rfl (xi_in (by decide) (by decide)) dX8_step_71 (fun H locs hP hD hS => ?_)
      have hP : va_P D vwCl [(h, .inr (8, [.ref h1, .ref h2, .ref h3, .int gst, .ref h4, .ref h5, .ref h6, .int gty, .int gse, .int gte, .int gsp, .ref h7, .ref h8, .int gtl])), (h1, .inl (cI, 190, .inl (upd (upd z 189 x10) 180 x70)))] H := hP
      have hD : va_D A [(h, .inr (8, [.ref h1, .ref h2, .ref h3, .int gst, .ref h4, .ref h5, .ref h6, .int gty, .int gse, .int gte, .int gsp, .ref h7, .ref h8, .int gtl])), (h1, .inl (cI, 190, .inl (upd (upd z 189 x10) 180 x70)))] := hD
      refine lv_aload_n hx hb dX8_step_72 rfl (lv_at hl 0 rfl) ?_
      refine va_get (D := D) (ci := 8) (v := .ref h1) (C := RX8) (T := TX8) (N := 14) hx hb hts xin8 hown hK hP 0 rfl rfl 0 (by decide) (hts _ (List.mem_cons_of_mem _ mw_3_85)) (fun _ h9 => h9) rfl dX8_step_73 ?_
      refine lv_sipush (v := 183) hx hb dX8_step_76 (by decide) ?_
      refine lv_dup2_11 hx hb dX8_step_79 rfl rfl ?_
      refine va_iald hx hb hK hP 1 0 rfl rfl (xi_in (by decide) (by decide)) dX8_step_80 ?_
      refine xk_top (z := z 183) rfl ?_
      refine lv_iconst (v := 1) hx hb dX8_step_81 (by decide) ?_
      refine lv_iadd hx hb dX8_step_82 ?_
      refine lv_topi (fun x82 e82 => ?_)
      refine va_iast hx hb hK hP hD hS 1 0 rfl rfl (xi_in (by decide) (by decide)) dX8_step_83 (fun H locs hP hD hS => ?_)
      have hP : va_P D vwCl [(h, .inr (8, [.ref h1, .ref h2, .ref h3, .int gst, .ref h4, .ref h5, .ref h6, .int gty, .int gse, .int gte, .int gsp, .ref h7, .ref h8, .int gtl])), (h1, .inl (cI, 190, .inl (upd (upd (upd z 189 x10) 180 x70) 183 x82)))] H := hP
      have hD : va_D A [(h, .inr (8, [.ref h1, .ref h2, .ref h3, .int gst, .ref h4, .ref h5, .ref h6, .int gty, .int gse, .int gte, .int gsp, .ref h7, .ref h8, .int gtl])), (h1, .inl (cI, 190, .inl (upd (upd (upd z 189 x10) 180 x70) 183 x82)))] := hD
      refine lv_aload_n hx hb dX8_step_84 rfl (lv_at hl 0 rfl) ?_
      refine va_get (D := D) (ci := 8) (v := .ref h1) (C := RX8) (T := TX8) (N := 14) hx hb hts xin8 hown hK hP 0 rfl rfl 0 (by decide) (hts _ (List.mem_cons_of_mem _ mw_3_85)) (fun _ h9 => h9) rfl dX8_step_85 ?_
      refine lv_sipush (v := 180) hx hb dX8_step_88 (by decide) ?_
      refine va_iald hx hb hK hP 1 0 rfl rfl (xi_in (by decide) (by decide)) dX8_step_91 ?_
      refine xk_top (z := x70) rfl ?_
      refine lv_aload_n hx hb dX8_step_92 rfl (lv_at hl 0 rfl) ?_
      refine lv_aload_n hx hb dX8_step_93 rfl (lv_at hl 0 rfl) ?_
      refine va_get (D := D) (ci := 8) (v := .ref h1) (C := RX8) (T := TX8) (N := 14) hx hb hts xin8 hown hK hP 0 rfl rfl 0 (by decide) (hts _ (List.mem_cons_of_mem _ mw_3_85)) (fun _ h9 => h9) rfl dX8_step_94 ?_
      refine lv_sipush (v := 179) hx hb dX8_step_97 (by decide) ?_
      refine va_iald hx hb hK hP 1 0 rfl rfl (xi_in (by decide) (by decide)) dX8_step_100 ?_
      refine xk_top (z := z 179) rfl ?_
      refine lv_iconst (v := 0) hx hb dX8_step_101 (by decide) ?_
      refine xk_Vi (As := [.int (z 179), .int 0]) (rest := [.int x70]) hx hb hml hown hts hK hN hZ hP hD hS hA mb_X8_ofStretch mw_3_170 mw_3_172 mw_0_10 (c_X8_ofStretch l D cI cZ cS h h1 h2 h3 h4 h5 h6 h7 h8 gst gty gse gte gsp gtl (upd (upd (upd z 189 x10) 180 x70) 183 x82) (z 179) (0 : Int32) (by first | omega | decide | assumption) (by first | omega | decide | assumption)) [0, 1] 0 8 rfl rfl (by decide) rfl (fun _ => rfl) (by decide) (by decide) rfl hl.1 rfl (Nat.le_of_ble_eq_true rfl) dX8_step_102 ⟨Nat.zero_le _, Nat.zero_le _⟩ (fun r102 _ H locs hw hP hD hS => ?_)
      have hP : va_P D vwCl [(h, .inr (8, [.ref h1, .ref h2, .ref h3, .int gst, .ref h4, .ref h5, .ref h6, .int gty, .int gse, .int gte, .int gsp, .ref h7, .ref h8, .int gtl])), (h1, .inl (cI, 190, .inl (upd (upd (upd z 189 x10) 180 x70) 183 x82)))] H := hP
      have hD : va_D A [(h, .inr (8, [.ref h1, .ref h2, .ref h3, .int gst, .ref h4, .ref h5, .ref h6, .int gty, .int gse, .int gte, .int gsp, .ref h7, .ref h8, .int gtl])), (h1, .inl (cI, 190, .inl (upd (upd (upd z 189 x10) 180 x70) 183 x82)))] := hD
      have e102 : r102 = ofZ (upd (upd (upd z 189 x10) 180 x70) 183 x82) (z 179).toInt.toNat 0 := hw
      have e102 : r102 = ofZ z ((z 179).toInt.toNat) 0 := by rw [e102, ofZ_upd _ _ (by omega), ofZ_upd _ _ (by omega), ofZ_upd _ _ (by omega)]
      refine lv_icmp_ne (tgt := 174) hx hb dX8_step_105 (by decide) (fun c105 => ?_) (fun c105 => ?_)
      · have t105 : ¬ x70.toInt = r102.toInt := xi_ne rfl rfl c105
        have d105 : ¬ x70 = r102 := c105
        have hk : ¬ skipZ z := by subst e102 e82 e70 e43 e22 e10; exact fun hh => d44 hh.2
        have hu : ¬ fullZ z := by subst e102 e82 e70 e43 e22 e10; exact d105
        have hz : (upd (upd (upd z 189 x10) 180 x70) 183 x82) = stepZ z := by subst e102 e82 e70 e43 e22 e10; rw [stepZ, if_neg hk, if_neg hu]
        have hg : gte = if (¬ skipZ z ∧ fullZ z) then 1 else gte := by rw [if_neg (fun hh => hu hh.2)]
        exact xk_retv () hx hb hr hlocks (xk_P hP (by rw [hz, ← hg])) (by trivial) hS dX8_step_174 hQ
      · have t105 : x70.toInt = r102.toInt := xi_eq rfl rfl c105
        have d105 : x70 = r102 := c105
        refine lv_aload_n hx hb dX8_step_108 rfl (lv_at hl 0 rfl) ?_
        refine lv_iconst (v := 1) hx hb dX8_step_109 (by decide) ?_
        refine va_put (D := D) (ci := 8) (v := .int 1) (ty := .boolean) (C := RX8) (T := TX8) (N := 14) hx hb hts xin8 tyX8 tyX8_ok nmX8 hown hK hP hD hS 0 rfl rfl 9 (by decide) (hts _ (List.mem_cons_of_mem _ mw_3_94)) (fun _ h9 => h9) rfl (by decide +kernel) rfl rfl (Nat.le_of_ble_eq_true rfl) dX8_step_110 (fun H locs hP hD hS => ?_)
        have hP : va_P D vwCl [(h, .inr (8, [.ref h1, .ref h2, .ref h3, .int gst, .ref h4, .ref h5, .ref h6, .int gty, .int gse, .int 1, .int gsp, .ref h7, .ref h8, .int gtl])), (h1, .inl (cI, 190, .inl (upd (upd (upd z 189 x10) 180 x70) 183 x82)))] H := hP
        have hD : va_D A [(h, .inr (8, [.ref h1, .ref h2, .ref h3, .int gst, .ref h4, .ref h5, .ref h6, .int gty, .int gse, .int 1, .int gsp, .ref h7, .ref h8, .int gtl])), (h1, .inl (cI, 190, .inl (upd (upd (upd z 189 x10) 180 x70) 183 x82)))] := hD
        refine lv_aload_n hx hb dX8_step_113 rfl (lv_at hl 0 rfl) ?_
        refine va_get (D := D) (ci := 8) (v := .ref h1) (C := RX8) (T := TX8) (N := 14) hx hb hts xin8 hown hK hP 0 rfl rfl 0 (by decide) (hts _ (List.mem_cons_of_mem _ mw_3_85)) (fun _ h9 => h9) rfl dX8_step_114 ?_
        refine lv_sipush (v := 179) hx hb dX8_step_117 (by decide) ?_
        refine lv_dup2_11 hx hb dX8_step_120 rfl rfl ?_
        refine va_iald hx hb hK hP 1 0 rfl rfl (xi_in (by decide) (by decide)) dX8_step_121 ?_
        refine xk_top (z := z 179) rfl ?_
        refine lv_iconst (v := 1) hx hb dX8_step_122 (by decide) ?_
        refine lv_iadd hx hb dX8_step_123 ?_
        refine lv_topi (fun x123 e123 => ?_)
        refine va_iast hx hb hK hP hD hS 1 0 rfl rfl (xi_in (by decide) (by decide)) dX8_step_124 (fun H locs hP hD hS => ?_)
        have hP : va_P D vwCl [(h, .inr (8, [.ref h1, .ref h2, .ref h3, .int gst, .ref h4, .ref h5, .ref h6, .int gty, .int gse, .int 1, .int gsp, .ref h7, .ref h8, .int gtl])), (h1, .inl (cI, 190, .inl (upd (upd (upd (upd z 189 x10) 180 x70) 183 x82) 179 x123)))] H := hP
        have hD : va_D A [(h, .inr (8, [.ref h1, .ref h2, .ref h3, .int gst, .ref h4, .ref h5, .ref h6, .int gty, .int gse, .int 1, .int gsp, .ref h7, .ref h8, .int gtl])), (h1, .inl (cI, 190, .inl (upd (upd (upd (upd z 189 x10) 180 x70) 183 x82) 179 x123)))] := hD
        refine lv_aload_n hx hb dX8_step_125 rfl (lv_at hl 0 rfl) ?_
        refine va_get (D := D) (ci := 8) (v := .ref h1) (C := RX8) (T := TX8) (N := 14) hx hb hts xin8 hown hK hP 0 rfl rfl 0 (by decide) (hts _ (List.mem_cons_of_mem _ mw_3_85)) (fun _ h9 => h9) rfl dX8_step_126 ?_
        refine lv_sipush (v := 180) hx hb dX8_step_129 (by decide) ?_
        refine lv_iconst (v := 0) hx hb dX8_step_132 (by decide) ?_
        refine va_iast hx hb hK hP hD hS 1 0 rfl rfl (xi_in (by decide) (by decide)) dX8_step_133 (fun H locs hP hD hS => ?_)
        have hP : va_P D vwCl [(h, .inr (8, [.ref h1, .ref h2, .ref h3, .int gst, .ref h4, .ref h5, .ref h6, .int gty, .int gse, .int 1, .int gsp, .ref h7, .ref h8, .int gtl])), (h1, .inl (cI, 190, .inl (upd (upd (upd (upd (upd z 189 x10) 180 x70) 183 x82) 179 x123) 180 0)))] H := hP
        have hD : va_D A [(h, .inr (8, [.ref h1, .ref h2, .ref h3, .int gst, .ref h4, .ref h5, .ref h6, .int gty, .int gse, .int 1, .int gsp, .ref h7, .ref h8, .int gtl])), (h1, .inl (cI, 190, .inl (upd (upd (upd (upd (upd z 189 x10) 180 x70) 183 x82) 179 x123) 180 0)))] := hD
        refine lv_aload_n hx hb dX8_step_134 rfl (lv_at hl 0 rfl) ?_
        refine va_get (D := D) (ci := 8) (v := .ref h1) (C := RX8) (T := TX8) (N := 14) hx hb hts xin8 hown hK hP 0 rfl rfl 0 (by decide) (hts _ (List.mem_cons_of_mem _ mw_3_85)) (fun _ h9 => h9) rfl dX8_step_135 ?_
        refine lv_sipush (v := 189) hx hb dX8_step_138 (by decide) ?_
        refine lv_iconst (v := 0) hx hb dX8_step_141 (by decide) ?_
        refine va_iast hx hb hK hP hD hS 1 0 rfl rfl (xi_in (by decide) (by decide)) dX8_step_142 (fun H locs hP hD hS => ?_)
        have hP : va_P D vwCl [(h, .inr (8, [.ref h1, .ref h2, .ref h3, .int gst, .ref h4, .ref h5, .ref h6, .int gty, .int gse, .int 1, .int gsp, .ref h7, .ref h8, .int gtl])), (h1, .inl (cI, 190, .inl (upd (upd (upd (upd (upd (upd z 189 x10) 180 x70) 183 x82) 179 x123) 180 0) 189 0)))] H := hP
        have hD : va_D A [(h, .inr (8, [.ref h1, .ref h2, .ref h3, .int gst, .ref h4, .ref h5, .ref h6, .int gty, .int gse, .int 1, .int gsp, .ref h7, .ref h8, .int gtl])), (h1, .inl (cI, 190, .inl (upd (upd (upd (upd (upd (upd z 189 x10) 180 x70) 183 x82) 179 x123) 180 0) 189 0)))] := hD
        refine lv_aload_n hx hb dX8_step_143 rfl (lv_at hl 0 rfl) ?_
        refine va_get (D := D) (ci := 8) (v := .ref h1) (C := RX8) (T := TX8) (N := 14) hx hb hts xin8 hown hK hP 0 rfl rfl 0 (by decide) (hts _ (List.mem_cons_of_mem _ mw_3_85)) (fun _ h9 => h9) rfl dX8_step_144 ?_
        refine lv_sipush (v := 188) hx hb dX8_step_147 (by decide) ?_
        refine lv_aload_n hx hb dX8_step_150 rfl (lv_at hl 0 rfl) ?_
        refine va_get (D := D) (ci := 8) (v := .ref h1) (C := RX8) (T := TX8) (N := 14) hx hb hts xin8 hown hK hP 0 rfl rfl 0 (by decide) (hts _ (List.mem_cons_of_mem _ mw_3_85)) (fun _ h9 => h9) rfl dX8_step_151 ?_
        refine lv_sipush (v := 179) hx hb dX8_step_154 (by decide) ?_
        refine va_iald hx hb hK hP 1 0 rfl rfl (xi_in (by decide) (by decide)) dX8_step_157 ?_
        refine xk_top (z := x123) rfl ?_
        refine lv_aload_n hx hb dX8_step_158 rfl (lv_at hl 0 rfl) ?_
        refine va_get (D := D) (ci := 8) (v := .ref h1) (C := RX8) (T := TX8) (N := 14) hx hb hts xin8 hown hK hP 0 rfl rfl 0 (by decide) (hts _ (List.mem_cons_of_mem _ mw_3_85)) (fun _ h9 => h9) rfl dX8_step_159 ?_
        refine lv_bipush (v := 7) hx hb dX8_step_162 (by decide) ?_
        refine va_iald hx hb hK hP 1 0 rfl rfl (xi_in (by decide) (by decide)) dX8_step_164 ?_
        refine xk_top (z := z 7) rfl ?_
        refine lv_icmp_ne (tgt := 172) hx hb dX8_step_165 (by decide) (fun c165 => ?_) (fun c165 => ?_)
        · have t165 : ¬ x123.toInt = (z 7).toInt := xi_ne rfl rfl c165
          have d165 : ¬ x123 = (z 7) := c165
          refine lv_iconst (v := 0) hx hb dX8_step_172 (by decide) ?_
          refine va_iast hx hb hK hP hD hS 1 0 rfl rfl (xi_in (by decide) (by decide)) dX8_step_173 (fun H locs hP hD hS => ?_)
          have hP : va_P D vwCl [(h, .inr (8, [.ref h1, .ref h2, .ref h3, .int gst, .ref h4, .ref h5, .ref h6, .int gty, .int gse, .int 1, .int gsp, .ref h7, .ref h8, .int gtl])), (h1, .inl (cI, 190, .inl (upd (upd (upd (upd (upd (upd (upd z 189 x10) 180 x70) 183 x82) 179 x123) 180 0) 189 0) 188 0)))] H := hP
          have hD : va_D A [(h, .inr (8, [.ref h1, .ref h2, .ref h3, .int gst, .ref h4, .ref h5, .ref h6, .int gty, .int gse, .int 1, .int gsp, .ref h7, .ref h8, .int gtl])), (h1, .inl (cI, 190, .inl (upd (upd (upd (upd (upd (upd (upd z 189 x10) 180 x70) 183 x82) 179 x123) 180 0) 189 0) 188 0)))] := hD
          have hk : ¬ skipZ z := by subst e123 e102 e82 e70 e43 e22 e10; exact fun hh => d44 hh.2
          have hu : fullZ z := by subst e123 e102 e82 e70 e43 e22 e10; exact d105
          have hz : (upd (upd (upd (upd (upd (upd (upd z 189 x10) 180 x70) 183 x82) 179 x123) 180 0) 189 0) 188 0) = stepZ z := by subst e123 e102 e82 e70 e43 e22 e10; rw [stepZ, if_neg hk, if_pos hu, if_neg d165]
          have hg : 1 = if (¬ skipZ z ∧ fullZ z) then 1 else gte := by rw [if_pos ⟨hk, hu⟩]
          exact xk_retv () hx hb hr hlocks (xk_P hP (by rw [hz, ← hg])) (by trivial) hS dX8_step_174 hQ
        · have t165 : x123.toInt = (z 7).toInt := xi_eq rfl rfl c165
          have d165 : x123 = (z 7) := c165
          refine lv_iconst (v := 1) hx hb dX8_step_168 (by decide) ?_
          refine lv_goto (tgt := 173) hx hb dX8_step_169 (by decide) ?_
          refine va_iast hx hb hK hP hD hS 1 0 rfl rfl (xi_in (by decide) (by decide)) dX8_step_173 (fun H locs hP hD hS => ?_)
          have hP : va_P D vwCl [(h, .inr (8, [.ref h1, .ref h2, .ref h3, .int gst, .ref h4, .ref h5, .ref h6, .int gty, .int gse, .int 1, .int gsp, .ref h7, .ref h8, .int gtl])), (h1, .inl (cI, 190, .inl (upd (upd (upd (upd (upd (upd (upd z 189 x10) 180 x70) 183 x82) 179 x123) 180 0) 189 0) 188 1)))] H := hP
          have hD : va_D A [(h, .inr (8, [.ref h1, .ref h2, .ref h3, .int gst, .ref h4, .ref h5, .ref h6, .int gty, .int gse, .int 1, .int gsp, .ref h7, .ref h8, .int gtl])), (h1, .inl (cI, 190, .inl (upd (upd (upd (upd (upd (upd (upd z 189 x10) 180 x70) 183 x82) 179 x123) 180 0) 189 0) 188 1)))] := hD
          have hk : ¬ skipZ z := by subst e123 e102 e82 e70 e43 e22 e10; exact fun hh => d44 hh.2
          have hu : fullZ z := by subst e123 e102 e82 e70 e43 e22 e10; exact d105
          have hz : (upd (upd (upd (upd (upd (upd (upd z 189 x10) 180 x70) 183 x82) 179 x123) 180 0) 189 0) 188 1) = stepZ z := by subst e123 e102 e82 e70 e43 e22 e10; rw [stepZ, if_neg hk, if_pos hu, if_pos d165]
          have hg : 1 = if (¬ skipZ z ∧ fullZ z) then 1 else gte := by rw [if_pos ⟨hk, hu⟩]
          exact xk_retv () hx hb hr hlocks (xk_P hP (by rw [hz, ← hg])) (by trivial) hS dX8_step_174 hQ
    · have t44 : x43.toInt = 0 := xi_eq rfl (by decide) c44
      have d44 : x43 = 0 := c44
      refine lv_aload_n hx hb dX8_step_47 rfl (lv_at hl 0 rfl) ?_
      refine va_get (D := D) (ci := 8) (v := .ref h1) (C := RX8) (T := TX8) (N := 14) hx hb hts xin8 hown hK hP 0 rfl rfl 0 (by decide) (hts _ (List.mem_cons_of_mem _ mw_3_85)) (fun _ h9 => h9) rfl dX8_step_48 ?_
      refine lv_sipush (v := 184) hx hb dX8_step_51 (by decide) ?_
      refine lv_dup2_11 hx hb dX8_step_54 rfl rfl ?_
      refine va_iald hx hb hK hP 1 0 rfl rfl (xi_in (by decide) (by decide)) dX8_step_55 ?_
      refine xk_top (z := z 184) rfl ?_
      refine lv_iconst (v := 1) hx hb dX8_step_56 (by decide) ?_
      refine lv_iadd hx hb dX8_step_57 ?_
      refine lv_topi (fun x57 e57 => ?_)
      refine va_iast hx hb hK hP hD hS 1 0 rfl rfl (xi_in (by decide) (by decide)) dX8_step_58 (fun H locs hP hD hS => ?_)
      have hP : va_P D vwCl [(h, .inr (8, [.ref h1, .ref h2, .ref h3, .int gst, .ref h4, .ref h5, .ref h6, .int gty, .int gse, .int gte, .int gsp, .ref h7, .ref h8, .int gtl])), (h1, .inl (cI, 190, .inl (upd (upd z 189 x10) 184 x57)))] H := hP
      have hD : va_D A [(h, .inr (8, [.ref h1, .ref h2, .ref h3, .int gst, .ref h4, .ref h5, .ref h6, .int gty, .int gse, .int gte, .int gsp, .ref h7, .ref h8, .int gtl])), (h1, .inl (cI, 190, .inl (upd (upd z 189 x10) 184 x57)))] := hD
      have hk : skipZ z := by subst e57 e43 e22 e10; exact ⟨d26, d44⟩
      have hz : (upd (upd z 189 x10) 184 x57) = stepZ z := by subst e57 e43 e22 e10; rw [stepZ, if_pos hk]
      have hg : gte = if (¬ skipZ z ∧ fullZ z) then 1 else gte := by rw [if_neg (fun hh => hh.1 hk)]
      exact xk_retv () hx hb hr hlocks (xk_P hP (by rw [hz, ← hg])) (by trivial) hS dX8_step_59 hQ

set_option maxHeartbeats 4000000 in
set_option maxRecDepth 100000 in
theorem c_X8_goOn (l : Launch) (D : va_G) (cI cZ cS : ClassId) (h h1 h2 h3 h4 h5 h6 h7 h8 : Nat) (gst gty gse gte gsp gtl : Int32) (z : Nat → Int32)  (hi : 0 ≤ (z 176).toInt ∧ (z 176).toInt ≤ 9 ∧ 0 ≤ (z 177).toInt ∧ (z 177).toInt ≤ 11) : xMv l yX8_goOn cX8_goOn 3 none ({ frames := 1, cells := 0, slots := 0, locals := 22 } : Room) D (xTy cI cZ cS) [.ref h] [(h, .inr (8, [.ref h1, .ref h2, .ref h3, .int gst, .ref h4, .ref h5, .ref h6, .int gty, .int gse, .int gte, .int gsp, .ref h7, .ref h8, .int gtl])), (h1, .inl (cI, 190, .inl z))] (fun (_ : Unit) => True) (fun (_ : Unit) => [(h, .inr (8, [.ref h1, .ref h2, .ref h3, .int gst, .ref h4, .ref h5, .ref h6, .int gty, .int (if (¬ inFootZ z ∧ songEZ z) then 1 else gse), .int gte, .int gsp, .ref h7, .ref h8, .int gtl])), (h1, .inl (cI, 190, .inl (goOnZ z)))]) := by
  refine xk_bodyv (by decide) (Nat.le_of_ble_eq_true rfl) ?_
  intro p e s m below meth c A ls args Q hx hb hr hts hown hlocks hml hin hK hP hD hS hA hN hZ hl hQ
  have hl : lv_has ls 3 [(0, .ref h)] := hl
  obtain ⟨hi1, hi2, hi3, hi4⟩ := hi
  refine lv_aload_n hx hb dX8_goOn_0 rfl (lv_at hl 0 rfl) ?_
  refine va_get (D := D) (ci := 8) (v := .ref h1) (C := RX8) (T := TX8) (N := 14) hx hb hts xin8 hown hK hP 0 rfl rfl 0 (by decide) (hts _ (List.mem_cons_of_mem _ mw_3_85)) (fun _ h9 => h9) rfl dX8_goOn_1 ?_
  refine lv_sipush (v := 176) hx hb dX8_goOn_4 (by decide) ?_
  refine va_iald hx hb hK hP 1 0 rfl rfl (xi_in (by decide) (by decide)) dX8_goOn_7 ?_
  refine xk_top (z := z 176) rfl ?_
  refine lv_istore_n (lv' := [(1, .int (z 176)), (0, .ref h)]) hx hb dX8_goOn_8 rfl hl (by decide) rfl (fun ls hl => ?_)
  refine lv_aload_n hx hb dX8_goOn_9 rfl (lv_at hl 1 rfl) ?_
  refine va_get (D := D) (ci := 8) (v := .ref h1) (C := RX8) (T := TX8) (N := 14) hx hb hts xin8 hown hK hP 0 rfl rfl 0 (by decide) (hts _ (List.mem_cons_of_mem _ mw_3_85)) (fun _ h9 => h9) rfl dX8_goOn_10 ?_
  refine lv_sipush (v := 177) hx hb dX8_goOn_13 (by decide) ?_
  refine va_iald hx hb hK hP 1 0 rfl rfl (xi_in (by decide) (by decide)) dX8_goOn_16 ?_
  refine xk_top (z := z 177) rfl ?_
  refine lv_istore_n (lv' := [(2, .int (z 177)), (1, .int (z 176)), (0, .ref h)]) hx hb dX8_goOn_17 rfl hl (by decide) rfl (fun ls hl => ?_)
  refine lv_aload_n hx hb dX8_goOn_18 rfl (lv_at hl 2 rfl) ?_
  refine va_get (D := D) (ci := 8) (v := .ref h1) (C := RX8) (T := TX8) (N := 14) hx hb hts xin8 hown hK hP 0 rfl rfl 0 (by decide) (hts _ (List.mem_cons_of_mem _ mw_3_85)) (fun _ h9 => h9) rfl dX8_goOn_19 ?_
  refine lv_sipush (v := 178) hx hb dX8_goOn_22 (by decide) ?_
  refine lv_dup2_11 hx hb dX8_goOn_25 rfl rfl ?_
  refine va_iald hx hb hK hP 1 0 rfl rfl (xi_in (by decide) (by decide)) dX8_goOn_26 ?_
  refine xk_top (z := z 178) rfl ?_
  refine lv_iconst (v := 1) hx hb dX8_goOn_27 (by decide) ?_
  refine lv_iadd hx hb dX8_goOn_28 ?_
  refine lv_topi (fun x28 e28 => ?_)
  refine va_iast hx hb hK hP hD hS 1 0 rfl rfl (xi_in (by decide) (by decide)) dX8_goOn_29 (fun H locs hP hD hS => ?_)
  have hP : va_P D vwCl [(h, .inr (8, [.ref h1, .ref h2, .ref h3, .int gst, .ref h4, .ref h5, .ref h6, .int gty, .int gse, .int gte, .int gsp, .ref h7, .ref h8, .int gtl])), (h1, .inl (cI, 190, .inl (upd z 178 x28)))] H := hP
  have hD : va_D A [(h, .inr (8, [.ref h1, .ref h2, .ref h3, .int gst, .ref h4, .ref h5, .ref h6, .int gty, .int gse, .int gte, .int gsp, .ref h7, .ref h8, .int gtl])), (h1, .inl (cI, 190, .inl (upd z 178 x28)))] := hD
  refine lv_aload_n hx hb dX8_goOn_30 rfl (lv_at hl 2 rfl) ?_
  refine va_get (D := D) (ci := 8) (v := .ref h1) (C := RX8) (T := TX8) (N := 14) hx hb hts xin8 hown hK hP 0 rfl rfl 0 (by decide) (hts _ (List.mem_cons_of_mem _ mw_3_85)) (fun _ h9 => h9) rfl dX8_goOn_31 ?_
  refine lv_sipush (v := 178) hx hb dX8_goOn_34 (by decide) ?_
  refine va_iald hx hb hK hP 1 0 rfl rfl (xi_in (by decide) (by decide)) dX8_goOn_37 ?_
  refine xk_top (z := x28) rfl ?_
  refine lv_aload_n hx hb dX8_goOn_38 rfl (lv_at hl 2 rfl) ?_
  refine lv_iload_n hx hb dX8_goOn_39 rfl (lv_at hl 1 rfl) ?_
  refine lv_iload_n hx hb dX8_goOn_40 rfl (lv_at hl 0 rfl) ?_
  refine xk_Vi (As := [.int (z 176), .int (z 177)]) (rest := [.int x28]) hx hb hml hown hts hK hN hZ hP hD hS hA mb_X8_beatsOf mw_3_182 mw_3_184 mw_0_13 (c_X8_beatsOf l D cI cZ cS h h1 h2 h3 h4 h5 h6 h7 h8 gst gty gse gte gsp gtl (upd z 178 x28) (z 176) (z 177) (by first | omega | decide | assumption) (by first | omega | decide | assumption)) [0, 1] 0 8 rfl rfl (by decide) rfl (fun _ => rfl) (by decide) (by decide) rfl hl.1 rfl (Nat.le_of_ble_eq_true rfl) dX8_goOn_41 ⟨Nat.zero_le _, Nat.zero_le _⟩ (fun r41 _ H locs hw hP hD hS => ?_)
  have hP : va_P D vwCl [(h, .inr (8, [.ref h1, .ref h2, .ref h3, .int gst, .ref h4, .ref h5, .ref h6, .int gty, .int gse, .int gte, .int gsp, .ref h7, .ref h8, .int gtl])), (h1, .inl (cI, 190, .inl (upd z 178 x28)))] H := hP
  have hD : va_D A [(h, .inr (8, [.ref h1, .ref h2, .ref h3, .int gst, .ref h4, .ref h5, .ref h6, .int gty, .int gse, .int gte, .int gsp, .ref h7, .ref h8, .int gtl])), (h1, .inl (cI, 190, .inl (upd z 178 x28)))] := hD
  have e41 : r41 = btZ (upd z 178 x28) (z 176).toInt.toNat (z 177).toInt.toNat := hw
  have e41 : r41 = btZ z ((z 176).toInt.toNat) ((z 177).toInt.toNat) := by rw [e41, btZ_upd _ _ (by omega)]
  refine lv_icmp_ge (tgt := 48) hx hb dX8_goOn_44 (by decide) (fun c44 => ?_) (fun c44 => ?_)
  · have t44 : r41.toInt ≤ x28.toInt := xi_le rfl rfl c44
    refine lv_aload_n hx hb dX8_goOn_48 rfl (lv_at hl 2 rfl) ?_
    refine va_get (D := D) (ci := 8) (v := .ref h1) (C := RX8) (T := TX8) (N := 14) hx hb hts xin8 hown hK hP 0 rfl rfl 0 (by decide) (hts _ (List.mem_cons_of_mem _ mw_3_85)) (fun _ h9 => h9) rfl dX8_goOn_49 ?_
    refine lv_sipush (v := 178) hx hb dX8_goOn_52 (by decide) ?_
    refine lv_iconst (v := 0) hx hb dX8_goOn_55 (by decide) ?_
    refine va_iast hx hb hK hP hD hS 1 0 rfl rfl (xi_in (by decide) (by decide)) dX8_goOn_56 (fun H locs hP hD hS => ?_)
    have hP : va_P D vwCl [(h, .inr (8, [.ref h1, .ref h2, .ref h3, .int gst, .ref h4, .ref h5, .ref h6, .int gty, .int gse, .int gte, .int gsp, .ref h7, .ref h8, .int gtl])), (h1, .inl (cI, 190, .inl (upd (upd z 178 x28) 178 0)))] H := hP
    have hD : va_D A [(h, .inr (8, [.ref h1, .ref h2, .ref h3, .int gst, .ref h4, .ref h5, .ref h6, .int gty, .int gse, .int gte, .int gsp, .ref h7, .ref h8, .int gtl])), (h1, .inl (cI, 190, .inl (upd (upd z 178 x28) 178 0)))] := hD
    refine lv_aload_n hx hb dX8_goOn_57 rfl (lv_at hl 2 rfl) ?_
    refine va_get (D := D) (ci := 8) (v := .ref h1) (C := RX8) (T := TX8) (N := 14) hx hb hts xin8 hown hK hP 0 rfl rfl 0 (by decide) (hts _ (List.mem_cons_of_mem _ mw_3_85)) (fun _ h9 => h9) rfl dX8_goOn_58 ?_
    refine lv_sipush (v := 182) hx hb dX8_goOn_61 (by decide) ?_
    refine lv_aload_n hx hb dX8_goOn_64 rfl (lv_at hl 2 rfl) ?_
    refine lv_iload_n hx hb dX8_goOn_65 rfl (lv_at hl 1 rfl) ?_
    refine lv_iload_n hx hb dX8_goOn_66 rfl (lv_at hl 0 rfl) ?_
    refine xk_Vi (As := [.int (z 176), .int (z 177)]) (rest := [.int 182, .ref h1]) hx hb hml hown hts hK hN hZ hP hD hS hA mb_X8_hasMark mw_3_186 mw_3_188 mw_0_14 (c_X8_hasMark l D cI cZ cS h h1 h2 h3 h4 h5 h6 h7 h8 gst gty gse gte gsp gtl (upd (upd z 178 x28) 178 0) (z 176) (z 177) (by first | omega | decide | assumption) (by first | omega | decide | assumption)) [0, 1] 0 8 rfl rfl (by decide) rfl (fun _ => rfl) (by decide) (by decide) rfl hl.1 rfl (Nat.le_of_ble_eq_true rfl) dX8_goOn_67 ⟨Nat.zero_le _, Nat.zero_le _⟩ (fun r67 _ H locs hw hP hD hS => ?_)
    have hP : va_P D vwCl [(h, .inr (8, [.ref h1, .ref h2, .ref h3, .int gst, .ref h4, .ref h5, .ref h6, .int gty, .int gse, .int gte, .int gsp, .ref h7, .ref h8, .int gtl])), (h1, .inl (cI, 190, .inl (upd (upd z 178 x28) 178 0)))] H := hP
    have hD : va_D A [(h, .inr (8, [.ref h1, .ref h2, .ref h3, .int gst, .ref h4, .ref h5, .ref h6, .int gty, .int gse, .int gte, .int gsp, .ref h7, .ref h8, .int gtl])), (h1, .inl (cI, 190, .inl (upd (upd z 178 x28) 178 0)))] := hD
    rcases hw with ⟨rfl, b67⟩ | ⟨rfl, b67⟩
    · have b67 : mkZ (upd (upd z 178 x28) 178 0) (z 176).toInt.toNat (z 177).toInt.toNat := b67
      have b67 : mkZ z ((z 176).toInt.toNat) ((z 177).toInt.toNat) := by rw [mkZ_upd _ _ (by omega), mkZ_upd _ _ (by omega)] at b67; exact b67
      refine lv_if_eq (tgt := 82) hx hb dX8_goOn_70 (by decide) (fun c70 => absurd c70 (by decide)) (fun _ => ?_)
      refine lv_aload_n hx hb dX8_goOn_73 rfl (lv_at hl 2 rfl) ?_
      refine va_get (D := D) (ci := 8) (v := .ref h1) (C := RX8) (T := TX8) (N := 14) hx hb hts xin8 hown hK hP 0 rfl rfl 0 (by decide) (hts _ (List.mem_cons_of_mem _ mw_3_85)) (fun _ h9 => h9) rfl dX8_goOn_74 ?_
      refine lv_iconst (v := 1) hx hb dX8_goOn_77 (by decide) ?_
      refine va_iald hx hb hK hP 1 0 rfl rfl (xi_in (by decide) (by decide)) dX8_goOn_78 ?_
      refine xk_top (z := z 1) rfl ?_
      refine lv_goto (tgt := 83) hx hb dX8_goOn_79 (by decide) ?_
      refine va_iast hx hb hK hP hD hS 1 0 rfl rfl (xi_in (by decide) (by decide)) dX8_goOn_83 (fun H locs hP hD hS => ?_)
      have hP : va_P D vwCl [(h, .inr (8, [.ref h1, .ref h2, .ref h3, .int gst, .ref h4, .ref h5, .ref h6, .int gty, .int gse, .int gte, .int gsp, .ref h7, .ref h8, .int gtl])), (h1, .inl (cI, 190, .inl (upd (upd (upd z 178 x28) 178 0) 182 (z 1))))] H := hP
      have hD : va_D A [(h, .inr (8, [.ref h1, .ref h2, .ref h3, .int gst, .ref h4, .ref h5, .ref h6, .int gty, .int gse, .int gte, .int gsp, .ref h7, .ref h8, .int gtl])), (h1, .inl (cI, 190, .inl (upd (upd (upd z 178 x28) 178 0) 182 (z 1))))] := hD
      refine lv_aload_n hx hb dX8_goOn_84 rfl (lv_at hl 2 rfl) ?_
      refine va_get (D := D) (ci := 8) (v := .ref h1) (C := RX8) (T := TX8) (N := 14) hx hb hts xin8 hown hK hP 0 rfl rfl 0 (by decide) (hts _ (List.mem_cons_of_mem _ mw_3_85)) (fun _ h9 => h9) rfl dX8_goOn_85 ?_
      refine lv_sipush (v := 177) hx hb dX8_goOn_88 (by decide) ?_
      refine lv_dup2_11 hx hb dX8_goOn_91 rfl rfl ?_
      refine va_iald hx hb hK hP 1 0 rfl rfl (xi_in (by decide) (by decide)) dX8_goOn_92 ?_
      refine xk_top (z := z 177) rfl ?_
      refine lv_iconst (v := 1) hx hb dX8_goOn_93 (by decide) ?_
      refine lv_iadd hx hb dX8_goOn_94 ?_
      refine lv_topi (fun x94 e94 => ?_)
      refine va_iast hx hb hK hP hD hS 1 0 rfl rfl (xi_in (by decide) (by decide)) dX8_goOn_95 (fun H locs hP hD hS => ?_)
      have hP : va_P D vwCl [(h, .inr (8, [.ref h1, .ref h2, .ref h3, .int gst, .ref h4, .ref h5, .ref h6, .int gty, .int gse, .int gte, .int gsp, .ref h7, .ref h8, .int gtl])), (h1, .inl (cI, 190, .inl (upd (upd (upd (upd z 178 x28) 178 0) 182 (z 1)) 177 x94)))] H := hP
      have hD : va_D A [(h, .inr (8, [.ref h1, .ref h2, .ref h3, .int gst, .ref h4, .ref h5, .ref h6, .int gty, .int gse, .int gte, .int gsp, .ref h7, .ref h8, .int gtl])), (h1, .inl (cI, 190, .inl (upd (upd (upd (upd z 178 x28) 178 0) 182 (z 1)) 177 x94)))] := hD
      refine lv_aload_n hx hb dX8_goOn_96 rfl (lv_at hl 2 rfl) ?_
      refine va_get (D := D) (ci := 8) (v := .ref h1) (C := RX8) (T := TX8) (N := 14) hx hb hts xin8 hown hK hP 0 rfl rfl 0 (by decide) (hts _ (List.mem_cons_of_mem _ mw_3_85)) (fun _ h9 => h9) rfl dX8_goOn_97 ?_
      refine lv_sipush (v := 177) hx hb dX8_goOn_100 (by decide) ?_
      refine va_iald hx hb hK hP 1 0 rfl rfl (xi_in (by decide) (by decide)) dX8_goOn_103 ?_
      refine xk_top (z := x94) rfl ?_
      refine lv_aload_n hx hb dX8_goOn_104 rfl (lv_at hl 2 rfl) ?_
      refine va_get (D := D) (ci := 8) (v := .ref h1) (C := RX8) (T := TX8) (N := 14) hx hb hts xin8 hown hK hP 0 rfl rfl 0 (by decide) (hts _ (List.mem_cons_of_mem _ mw_3_85)) (fun _ h9 => h9) rfl dX8_goOn_105 ?_
      refine lv_bipush (v := 8) hx hb dX8_goOn_108 (by decide) ?_
      refine lv_iload_n hx hb dX8_goOn_110 rfl (lv_at hl 1 rfl) ?_
      refine lv_iadd hx hb dX8_goOn_111 ?_
      refine lv_topi (fun x111 e111 => ?_)
      have t111 : x111.toInt = 8 + ((z 176).toInt) := by rw [e111]; exact xi_add (by decide) rfl (by omega) (by omega)
      refine va_iald hx hb hK hP 1 0 rfl rfl (xi_in (by omega) (by omega)) dX8_goOn_112 ?_
      refine xk_top (z := (upd (upd (upd (upd z 178 x28) 178 0) 182 (z 1)) 177 x94) (8 + (z 176).toInt.toNat)) (xk_rd (by omega)) ?_
      refine lv_topi (fun x112 e112 => ?_)
      have e112 : x112 = z (8 + (z 176).toInt.toNat) := by rw [e112, upd_n _ _ _ (by omega), upd_n _ _ _ (by omega), upd_n _ _ _ (by omega), upd_n _ _ _ (by omega)]
      refine lv_icmp_ne (tgt := 137) hx hb dX8_goOn_113 (by decide) (fun c113 => ?_) (fun c113 => ?_)
      · have t113 : ¬ x94.toInt = x112.toInt := xi_ne rfl rfl c113
        have d113 : ¬ x94 = x112 := c113
        refine lv_aload_n hx hb dX8_goOn_137 rfl (lv_at hl 2 rfl) ?_
        refine va_get (D := D) (ci := 8) (v := .ref h1) (C := RX8) (T := TX8) (N := 14) hx hb hts xin8 hown hK hP 0 rfl rfl 0 (by decide) (hts _ (List.mem_cons_of_mem _ mw_3_85)) (fun _ h9 => h9) rfl dX8_goOn_138 ?_
        refine lv_sipush (v := 176) hx hb dX8_goOn_141 (by decide) ?_
        refine va_iald hx hb hK hP 1 0 rfl rfl (xi_in (by decide) (by decide)) dX8_goOn_144 ?_
        refine xk_top (z := z 176) rfl ?_
        refine lv_aload_n hx hb dX8_goOn_145 rfl (lv_at hl 2 rfl) ?_
        refine va_get (D := D) (ci := 8) (v := .ref h1) (C := RX8) (T := TX8) (N := 14) hx hb hts xin8 hown hK hP 0 rfl rfl 0 (by decide) (hts _ (List.mem_cons_of_mem _ mw_3_85)) (fun _ h9 => h9) rfl dX8_goOn_146 ?_
        refine lv_bipush (v := 6) hx hb dX8_goOn_149 (by decide) ?_
        refine va_iald hx hb hK hP 1 0 rfl rfl (xi_in (by decide) (by decide)) dX8_goOn_151 ?_
        refine xk_top (z := z 6) rfl ?_
        refine lv_icmp_ne (tgt := 181) hx hb dX8_goOn_152 (by decide) (fun c152 => ?_) (fun c152 => ?_)
        · have t152 : ¬ (z 176).toInt = (z 6).toInt := xi_ne rfl rfl c152
          have d152 : ¬ (z 176) = (z 6) := c152
          have hf : ¬ inFootZ z := by subst e112 e111 e94 e41 e28; exact Int.not_lt.mpr t44
          have hft : footEZ z = (upd (upd (upd (upd z 178 (z 178 + 1)) 178 0) 182 (z 1)) 177 (z 177 + 1)) := by rw [footEZ, if_pos b67]
          have hil : inLineZ z := by subst e112 e111 e94 e41 e28; exact d113
          have hln : lineEZ z = (upd (upd (upd (upd z 178 (z 178 + 1)) 178 0) 182 (z 1)) 177 (z 177 + 1)) := by rw [lineEZ, if_pos hil, hft]
          have hs : ¬ songEZ z := by subst e112 e111 e94 e41 e28; show ¬ lineEZ z 176 = z 6; rw [hln]; exact d152
          have hz : (upd (upd (upd (upd z 178 x28) 178 0) 182 (z 1)) 177 x94) = goOnZ z := by subst e112 e111 e94 e41 e28; rw [goOnZ, if_neg hf, if_neg hs, hln]
          have hg : gse = if (¬ inFootZ z ∧ songEZ z) then 1 else gse := by rw [if_neg (fun hh => hs hh.2)]
          exact xk_retv () hx hb hr hlocks (xk_P hP (by rw [hz, ← hg])) (by trivial) hS dX8_goOn_181 hQ
        · have t152 : (z 176).toInt = (z 6).toInt := xi_eq rfl rfl c152
          have d152 : (z 176) = (z 6) := c152
          refine lv_aload_n hx hb dX8_goOn_155 rfl (lv_at hl 2 rfl) ?_
          refine va_get (D := D) (ci := 8) (v := .ref h1) (C := RX8) (T := TX8) (N := 14) hx hb hts xin8 hown hK hP 0 rfl rfl 0 (by decide) (hts _ (List.mem_cons_of_mem _ mw_3_85)) (fun _ h9 => h9) rfl dX8_goOn_156 ?_
          refine lv_sipush (v := 176) hx hb dX8_goOn_159 (by decide) ?_
          refine lv_iconst (v := 0) hx hb dX8_goOn_162 (by decide) ?_
          refine va_iast hx hb hK hP hD hS 1 0 rfl rfl (xi_in (by decide) (by decide)) dX8_goOn_163 (fun H locs hP hD hS => ?_)
          have hP : va_P D vwCl [(h, .inr (8, [.ref h1, .ref h2, .ref h3, .int gst, .ref h4, .ref h5, .ref h6, .int gty, .int gse, .int gte, .int gsp, .ref h7, .ref h8, .int gtl])), (h1, .inl (cI, 190, .inl (upd (upd (upd (upd (upd z 178 x28) 178 0) 182 (z 1)) 177 x94) 176 0)))] H := hP
          have hD : va_D A [(h, .inr (8, [.ref h1, .ref h2, .ref h3, .int gst, .ref h4, .ref h5, .ref h6, .int gty, .int gse, .int gte, .int gsp, .ref h7, .ref h8, .int gtl])), (h1, .inl (cI, 190, .inl (upd (upd (upd (upd (upd z 178 x28) 178 0) 182 (z 1)) 177 x94) 176 0)))] := hD
          refine lv_aload_n hx hb dX8_goOn_164 rfl (lv_at hl 2 rfl) ?_
          refine va_get (D := D) (ci := 8) (v := .ref h1) (C := RX8) (T := TX8) (N := 14) hx hb hts xin8 hown hK hP 0 rfl rfl 0 (by decide) (hts _ (List.mem_cons_of_mem _ mw_3_85)) (fun _ h9 => h9) rfl dX8_goOn_165 ?_
          refine lv_sipush (v := 186) hx hb dX8_goOn_168 (by decide) ?_
          refine lv_dup2_11 hx hb dX8_goOn_171 rfl rfl ?_
          refine va_iald hx hb hK hP 1 0 rfl rfl (xi_in (by decide) (by decide)) dX8_goOn_172 ?_
          refine xk_top (z := z 186) rfl ?_
          refine lv_iconst (v := 1) hx hb dX8_goOn_173 (by decide) ?_
          refine lv_iadd hx hb dX8_goOn_174 ?_
          refine lv_topi (fun x174 e174 => ?_)
          refine va_iast hx hb hK hP hD hS 1 0 rfl rfl (xi_in (by decide) (by decide)) dX8_goOn_175 (fun H locs hP hD hS => ?_)
          have hP : va_P D vwCl [(h, .inr (8, [.ref h1, .ref h2, .ref h3, .int gst, .ref h4, .ref h5, .ref h6, .int gty, .int gse, .int gte, .int gsp, .ref h7, .ref h8, .int gtl])), (h1, .inl (cI, 190, .inl (upd (upd (upd (upd (upd (upd z 178 x28) 178 0) 182 (z 1)) 177 x94) 176 0) 186 x174)))] H := hP
          have hD : va_D A [(h, .inr (8, [.ref h1, .ref h2, .ref h3, .int gst, .ref h4, .ref h5, .ref h6, .int gty, .int gse, .int gte, .int gsp, .ref h7, .ref h8, .int gtl])), (h1, .inl (cI, 190, .inl (upd (upd (upd (upd (upd (upd z 178 x28) 178 0) 182 (z 1)) 177 x94) 176 0) 186 x174)))] := hD
          refine lv_aload_n hx hb dX8_goOn_176 rfl (lv_at hl 2 rfl) ?_
          refine lv_iconst (v := 1) hx hb dX8_goOn_177 (by decide) ?_
          refine va_put (D := D) (ci := 8) (v := .int 1) (ty := .boolean) (C := RX8) (T := TX8) (N := 14) hx hb hts xin8 tyX8 tyX8_ok nmX8 hown hK hP hD hS 0 rfl rfl 8 (by decide) (hts _ (List.mem_cons_of_mem _ mw_3_93)) (fun _ h9 => h9) rfl (by decide +kernel) rfl rfl (Nat.le_of_ble_eq_true rfl) dX8_goOn_178 (fun H locs hP hD hS => ?_)
          have hP : va_P D vwCl [(h, .inr (8, [.ref h1, .ref h2, .ref h3, .int gst, .ref h4, .ref h5, .ref h6, .int gty, .int 1, .int gte, .int gsp, .ref h7, .ref h8, .int gtl])), (h1, .inl (cI, 190, .inl (upd (upd (upd (upd (upd (upd z 178 x28) 178 0) 182 (z 1)) 177 x94) 176 0) 186 x174)))] H := hP
          have hD : va_D A [(h, .inr (8, [.ref h1, .ref h2, .ref h3, .int gst, .ref h4, .ref h5, .ref h6, .int gty, .int 1, .int gte, .int gsp, .ref h7, .ref h8, .int gtl])), (h1, .inl (cI, 190, .inl (upd (upd (upd (upd (upd (upd z 178 x28) 178 0) 182 (z 1)) 177 x94) 176 0) 186 x174)))] := hD
          have hf : ¬ inFootZ z := by subst e174 e112 e111 e94 e41 e28; exact Int.not_lt.mpr t44
          have hft : footEZ z = (upd (upd (upd (upd z 178 (z 178 + 1)) 178 0) 182 (z 1)) 177 (z 177 + 1)) := by rw [footEZ, if_pos b67]
          have hil : inLineZ z := by subst e174 e112 e111 e94 e41 e28; exact d113
          have hln : lineEZ z = (upd (upd (upd (upd z 178 (z 178 + 1)) 178 0) 182 (z 1)) 177 (z 177 + 1)) := by rw [lineEZ, if_pos hil, hft]
          have hs : songEZ z := by subst e174 e112 e111 e94 e41 e28; show lineEZ z 176 = z 6; rw [hln]; exact d152
          have hz : (upd (upd (upd (upd (upd (upd z 178 x28) 178 0) 182 (z 1)) 177 x94) 176 0) 186 x174) = goOnZ z := by subst e174 e112 e111 e94 e41 e28; rw [goOnZ, if_neg hf, if_pos hs, hln]
          have hg : 1 = if (¬ inFootZ z ∧ songEZ z) then 1 else gse := by rw [if_pos ⟨hf, hs⟩]
          exact xk_retv () hx hb hr hlocks (xk_P hP (by rw [hz, ← hg])) (by trivial) hS dX8_goOn_181 hQ
      · have t113 : x94.toInt = x112.toInt := xi_eq rfl rfl c113
        have d113 : x94 = x112 := c113
        refine lv_aload_n hx hb dX8_goOn_116 rfl (lv_at hl 2 rfl) ?_
        refine va_get (D := D) (ci := 8) (v := .ref h1) (C := RX8) (T := TX8) (N := 14) hx hb hts xin8 hown hK hP 0 rfl rfl 0 (by decide) (hts _ (List.mem_cons_of_mem _ mw_3_85)) (fun _ h9 => h9) rfl dX8_goOn_117 ?_
        refine lv_sipush (v := 177) hx hb dX8_goOn_120 (by decide) ?_
        refine lv_iconst (v := 0) hx hb dX8_goOn_123 (by decide) ?_
        refine va_iast hx hb hK hP hD hS 1 0 rfl rfl (xi_in (by decide) (by decide)) dX8_goOn_124 (fun H locs hP hD hS => ?_)
        have hP : va_P D vwCl [(h, .inr (8, [.ref h1, .ref h2, .ref h3, .int gst, .ref h4, .ref h5, .ref h6, .int gty, .int gse, .int gte, .int gsp, .ref h7, .ref h8, .int gtl])), (h1, .inl (cI, 190, .inl (upd (upd (upd (upd (upd z 178 x28) 178 0) 182 (z 1)) 177 x94) 177 0)))] H := hP
        have hD : va_D A [(h, .inr (8, [.ref h1, .ref h2, .ref h3, .int gst, .ref h4, .ref h5, .ref h6, .int gty, .int gse, .int gte, .int gsp, .ref h7, .ref h8, .int gtl])), (h1, .inl (cI, 190, .inl (upd (upd (upd (upd (upd z 178 x28) 178 0) 182 (z 1)) 177 x94) 177 0)))] := hD
        refine lv_aload_n hx hb dX8_goOn_125 rfl (lv_at hl 2 rfl) ?_
        refine va_get (D := D) (ci := 8) (v := .ref h1) (C := RX8) (T := TX8) (N := 14) hx hb hts xin8 hown hK hP 0 rfl rfl 0 (by decide) (hts _ (List.mem_cons_of_mem _ mw_3_85)) (fun _ h9 => h9) rfl dX8_goOn_126 ?_
        refine lv_sipush (v := 176) hx hb dX8_goOn_129 (by decide) ?_
        refine lv_dup2_11 hx hb dX8_goOn_132 rfl rfl ?_
        refine va_iald hx hb hK hP 1 0 rfl rfl (xi_in (by decide) (by decide)) dX8_goOn_133 ?_
        refine xk_top (z := z 176) rfl ?_
        refine lv_iconst (v := 1) hx hb dX8_goOn_134 (by decide) ?_
        refine lv_iadd hx hb dX8_goOn_135 ?_
        refine lv_topi (fun x135 e135 => ?_)
        refine va_iast hx hb hK hP hD hS 1 0 rfl rfl (xi_in (by decide) (by decide)) dX8_goOn_136 (fun H locs hP hD hS => ?_)
        have hP : va_P D vwCl [(h, .inr (8, [.ref h1, .ref h2, .ref h3, .int gst, .ref h4, .ref h5, .ref h6, .int gty, .int gse, .int gte, .int gsp, .ref h7, .ref h8, .int gtl])), (h1, .inl (cI, 190, .inl (upd (upd (upd (upd (upd (upd z 178 x28) 178 0) 182 (z 1)) 177 x94) 177 0) 176 x135)))] H := hP
        have hD : va_D A [(h, .inr (8, [.ref h1, .ref h2, .ref h3, .int gst, .ref h4, .ref h5, .ref h6, .int gty, .int gse, .int gte, .int gsp, .ref h7, .ref h8, .int gtl])), (h1, .inl (cI, 190, .inl (upd (upd (upd (upd (upd (upd z 178 x28) 178 0) 182 (z 1)) 177 x94) 177 0) 176 x135)))] := hD
        refine lv_aload_n hx hb dX8_goOn_137 rfl (lv_at hl 2 rfl) ?_
        refine va_get (D := D) (ci := 8) (v := .ref h1) (C := RX8) (T := TX8) (N := 14) hx hb hts xin8 hown hK hP 0 rfl rfl 0 (by decide) (hts _ (List.mem_cons_of_mem _ mw_3_85)) (fun _ h9 => h9) rfl dX8_goOn_138 ?_
        refine lv_sipush (v := 176) hx hb dX8_goOn_141 (by decide) ?_
        refine va_iald hx hb hK hP 1 0 rfl rfl (xi_in (by decide) (by decide)) dX8_goOn_144 ?_
        refine xk_top (z := x135) rfl ?_
        refine lv_aload_n hx hb dX8_goOn_145 rfl (lv_at hl 2 rfl) ?_
        refine va_get (D := D) (ci := 8) (v := .ref h1) (C := RX8) (T := TX8) (N := 14) hx hb hts xin8 hown hK hP 0 rfl rfl 0 (by decide) (hts _ (List.mem_cons_of_mem _ mw_3_85)) (fun _ h9 => h9) rfl dX8_goOn_146 ?_
        refine lv_bipush (v := 6) hx hb dX8_goOn_149 (by decide) ?_
        refine va_iald hx hb hK hP 1 0 rfl rfl (xi_in (by decide) (by decide)) dX8_goOn_151 ?_
        refine xk_top (z := z 6) rfl ?_
        refine lv_icmp_ne (tgt := 181) hx hb dX8_goOn_152 (by decide) (fun c152 => ?_) (fun c152 => ?_)
        · have t152 : ¬ x135.toInt = (z 6).toInt := xi_ne rfl rfl c152
          have d152 : ¬ x135 = (z 6) := c152
          have hf : ¬ inFootZ z := by subst e135 e112 e111 e94 e41 e28; exact Int.not_lt.mpr t44
          have hft : footEZ z = (upd (upd (upd (upd z 178 (z 178 + 1)) 178 0) 182 (z 1)) 177 (z 177 + 1)) := by rw [footEZ, if_pos b67]
          have hil : ¬ inLineZ z := by subst e135 e112 e111 e94 e41 e28; exact fun hh => hh d113
          have hln : lineEZ z = (upd (upd (upd (upd (upd (upd z 178 (z 178 + 1)) 178 0) 182 (z 1)) 177 (z 177 + 1)) 177 0) 176 (z 176 + 1)) := by rw [lineEZ, if_neg hil, hft]
          have hs : ¬ songEZ z := by subst e135 e112 e111 e94 e41 e28; show ¬ lineEZ z 176 = z 6; rw [hln]; exact d152
          have hz : (upd (upd (upd (upd (upd (upd z 178 x28) 178 0) 182 (z 1)) 177 x94) 177 0) 176 x135) = goOnZ z := by subst e135 e112 e111 e94 e41 e28; rw [goOnZ, if_neg hf, if_neg hs, hln]
          have hg : gse = if (¬ inFootZ z ∧ songEZ z) then 1 else gse := by rw [if_neg (fun hh => hs hh.2)]
          exact xk_retv () hx hb hr hlocks (xk_P hP (by rw [hz, ← hg])) (by trivial) hS dX8_goOn_181 hQ
        · have t152 : x135.toInt = (z 6).toInt := xi_eq rfl rfl c152
          have d152 : x135 = (z 6) := c152
          refine lv_aload_n hx hb dX8_goOn_155 rfl (lv_at hl 2 rfl) ?_
          refine va_get (D := D) (ci := 8) (v := .ref h1) (C := RX8) (T := TX8) (N := 14) hx hb hts xin8 hown hK hP 0 rfl rfl 0 (by decide) (hts _ (List.mem_cons_of_mem _ mw_3_85)) (fun _ h9 => h9) rfl dX8_goOn_156 ?_
          refine lv_sipush (v := 176) hx hb dX8_goOn_159 (by decide) ?_
          refine lv_iconst (v := 0) hx hb dX8_goOn_162 (by decide) ?_
          refine va_iast hx hb hK hP hD hS 1 0 rfl rfl (xi_in (by decide) (by decide)) dX8_goOn_163 (fun H locs hP hD hS => ?_)
          have hP : va_P D vwCl [(h, .inr (8, [.ref h1, .ref h2, .ref h3, .int gst, .ref h4, .ref h5, .ref h6, .int gty, .int gse, .int gte, .int gsp, .ref h7, .ref h8, .int gtl])), (h1, .inl (cI, 190, .inl (upd (upd (upd (upd (upd (upd (upd z 178 x28) 178 0) 182 (z 1)) 177 x94) 177 0) 176 x135) 176 0)))] H := hP
          have hD : va_D A [(h, .inr (8, [.ref h1, .ref h2, .ref h3, .int gst, .ref h4, .ref h5, .ref h6, .int gty, .int gse, .int gte, .int gsp, .ref h7, .ref h8, .int gtl])), (h1, .inl (cI, 190, .inl (upd (upd (upd (upd (upd (upd (upd z 178 x28) 178 0) 182 (z 1)) 177 x94) 177 0) 176 x135) 176 0)))] := hD
          refine lv_aload_n hx hb dX8_goOn_164 rfl (lv_at hl 2 rfl) ?_
          refine va_get (D := D) (ci := 8) (v := .ref h1) (C := RX8) (T := TX8) (N := 14) hx hb hts xin8 hown hK hP 0 rfl rfl 0 (by decide) (hts _ (List.mem_cons_of_mem _ mw_3_85)) (fun _ h9 => h9) rfl dX8_goOn_165 ?_
          refine lv_sipush (v := 186) hx hb dX8_goOn_168 (by decide) ?_
          refine lv_dup2_11 hx hb dX8_goOn_171 rfl rfl ?_
          refine va_iald hx hb hK hP 1 0 rfl rfl (xi_in (by decide) (by decide)) dX8_goOn_172 ?_
          refine xk_top (z := z 186) rfl ?_
          refine lv_iconst (v := 1) hx hb dX8_goOn_173 (by decide) ?_
          refine lv_iadd hx hb dX8_goOn_174 ?_
          refine lv_topi (fun x174 e174 => ?_)
          refine va_iast hx hb hK hP hD hS 1 0 rfl rfl (xi_in (by decide) (by decide)) dX8_goOn_175 (fun H locs hP hD hS => ?_)
          have hP : va_P D vwCl [(h, .inr (8, [.ref h1, .ref h2, .ref h3, .int gst, .ref h4, .ref h5, .ref h6, .int gty, .int gse, .int gte, .int gsp, .ref h7, .ref h8, .int gtl])), (h1, .inl (cI, 190, .inl (upd (upd (upd (upd (upd (upd (upd (upd z 178 x28) 178 0) 182 (z 1)) 177 x94) 177 0) 176 x135) 176 0) 186 x174)))] H := hP
          have hD : va_D A [(h, .inr (8, [.ref h1, .ref h2, .ref h3, .int gst, .ref h4, .ref h5, .ref h6, .int gty, .int gse, .int gte, .int gsp, .ref h7, .ref h8, .int gtl])), (h1, .inl (cI, 190, .inl (upd (upd (upd (upd (upd (upd (upd (upd z 178 x28) 178 0) 182 (z 1)) 177 x94) 177 0) 176 x135) 176 0) 186 x174)))] := hD
          refine lv_aload_n hx hb dX8_goOn_176 rfl (lv_at hl 2 rfl) ?_
          refine lv_iconst (v := 1) hx hb dX8_goOn_177 (by decide) ?_
          refine va_put (D := D) (ci := 8) (v := .int 1) (ty := .boolean) (C := RX8) (T := TX8) (N := 14) hx hb hts xin8 tyX8 tyX8_ok nmX8 hown hK hP hD hS 0 rfl rfl 8 (by decide) (hts _ (List.mem_cons_of_mem _ mw_3_93)) (fun _ h9 => h9) rfl (by decide +kernel) rfl rfl (Nat.le_of_ble_eq_true rfl) dX8_goOn_178 (fun H locs hP hD hS => ?_)
          have hP : va_P D vwCl [(h, .inr (8, [.ref h1, .ref h2, .ref h3, .int gst, .ref h4, .ref h5, .ref h6, .int gty, .int 1, .int gte, .int gsp, .ref h7, .ref h8, .int gtl])), (h1, .inl (cI, 190, .inl (upd (upd (upd (upd (upd (upd (upd (upd z 178 x28) 178 0) 182 (z 1)) 177 x94) 177 0) 176 x135) 176 0) 186 x174)))] H := hP
          have hD : va_D A [(h, .inr (8, [.ref h1, .ref h2, .ref h3, .int gst, .ref h4, .ref h5, .ref h6, .int gty, .int 1, .int gte, .int gsp, .ref h7, .ref h8, .int gtl])), (h1, .inl (cI, 190, .inl (upd (upd (upd (upd (upd (upd (upd (upd z 178 x28) 178 0) 182 (z 1)) 177 x94) 177 0) 176 x135) 176 0) 186 x174)))] := hD
          have hf : ¬ inFootZ z := by subst e174 e135 e112 e111 e94 e41 e28; exact Int.not_lt.mpr t44
          have hft : footEZ z = (upd (upd (upd (upd z 178 (z 178 + 1)) 178 0) 182 (z 1)) 177 (z 177 + 1)) := by rw [footEZ, if_pos b67]
          have hil : ¬ inLineZ z := by subst e174 e135 e112 e111 e94 e41 e28; exact fun hh => hh d113
          have hln : lineEZ z = (upd (upd (upd (upd (upd (upd z 178 (z 178 + 1)) 178 0) 182 (z 1)) 177 (z 177 + 1)) 177 0) 176 (z 176 + 1)) := by rw [lineEZ, if_neg hil, hft]
          have hs : songEZ z := by subst e174 e135 e112 e111 e94 e41 e28; show lineEZ z 176 = z 6; rw [hln]; exact d152
          have hz : (upd (upd (upd (upd (upd (upd (upd (upd z 178 x28) 178 0) 182 (z 1)) 177 x94) 177 0) 176 x135) 176 0) 186 x174) = goOnZ z := by subst e174 e135 e112 e111 e94 e41 e28; rw [goOnZ, if_neg hf, if_pos hs, hln]
          have hg : 1 = if (¬ inFootZ z ∧ songEZ z) then 1 else gse := by rw [if_pos ⟨hf, hs⟩]
          exact xk_retv () hx hb hr hlocks (xk_P hP (by rw [hz, ← hg])) (by trivial) hS dX8_goOn_181 hQ
    · have b67 : ¬ (mkZ (upd (upd z 178 x28) 178 0) (z 176).toInt.toNat (z 177).toInt.toNat) := b67
      have b67 : ¬ mkZ z ((z 176).toInt.toNat) ((z 177).toInt.toNat) := by rw [mkZ_upd _ _ (by omega), mkZ_upd _ _ (by omega)] at b67; exact b67
      refine lv_if_eq (tgt := 82) hx hb dX8_goOn_70 (by decide) (fun _ => ?_) (fun c70 => absurd (by decide) c70)
      refine lv_iconst (v := 0) hx hb dX8_goOn_82 (by decide) ?_
      refine va_iast hx hb hK hP hD hS 1 0 rfl rfl (xi_in (by decide) (by decide)) dX8_goOn_83 (fun H locs hP hD hS => ?_)
      have hP : va_P D vwCl [(h, .inr (8, [.ref h1, .ref h2, .ref h3, .int gst, .ref h4, .ref h5, .ref h6, .int gty, .int gse, .int gte, .int gsp, .ref h7, .ref h8, .int gtl])), (h1, .inl (cI, 190, .inl (upd (upd (upd z 178 x28) 178 0) 182 0)))] H := hP
      have hD : va_D A [(h, .inr (8, [.ref h1, .ref h2, .ref h3, .int gst, .ref h4, .ref h5, .ref h6, .int gty, .int gse, .int gte, .int gsp, .ref h7, .ref h8, .int gtl])), (h1, .inl (cI, 190, .inl (upd (upd (upd z 178 x28) 178 0) 182 0)))] := hD
      refine lv_aload_n hx hb dX8_goOn_84 rfl (lv_at hl 2 rfl) ?_
      refine va_get (D := D) (ci := 8) (v := .ref h1) (C := RX8) (T := TX8) (N := 14) hx hb hts xin8 hown hK hP 0 rfl rfl 0 (by decide) (hts _ (List.mem_cons_of_mem _ mw_3_85)) (fun _ h9 => h9) rfl dX8_goOn_85 ?_
      refine lv_sipush (v := 177) hx hb dX8_goOn_88 (by decide) ?_
      refine lv_dup2_11 hx hb dX8_goOn_91 rfl rfl ?_
      refine va_iald hx hb hK hP 1 0 rfl rfl (xi_in (by decide) (by decide)) dX8_goOn_92 ?_
      refine xk_top (z := z 177) rfl ?_
      refine lv_iconst (v := 1) hx hb dX8_goOn_93 (by decide) ?_
      refine lv_iadd hx hb dX8_goOn_94 ?_
      refine lv_topi (fun x94 e94 => ?_)
      refine va_iast hx hb hK hP hD hS 1 0 rfl rfl (xi_in (by decide) (by decide)) dX8_goOn_95 (fun H locs hP hD hS => ?_)
      have hP : va_P D vwCl [(h, .inr (8, [.ref h1, .ref h2, .ref h3, .int gst, .ref h4, .ref h5, .ref h6, .int gty, .int gse, .int gte, .int gsp, .ref h7, .ref h8, .int gtl])), (h1, .inl (cI, 190, .inl (upd (upd (upd (upd z 178 x28) 178 0) 182 0) 177 x94)))] H := hP
      have hD : va_D A [(h, .inr (8, [.ref h1, .ref h2, .ref h3, .int gst, .ref h4, .ref h5, .ref h6, .int gty, .int gse, .int gte, .int gsp, .ref h7, .ref h8, .int gtl])), (h1, .inl (cI, 190, .inl (upd (upd (upd (upd z 178 x28) 178 0) 182 0) 177 x94)))] := hD
      refine lv_aload_n hx hb dX8_goOn_96 rfl (lv_at hl 2 rfl) ?_
      refine va_get (D := D) (ci := 8) (v := .ref h1) (C := RX8) (T := TX8) (N := 14) hx hb hts xin8 hown hK hP 0 rfl rfl 0 (by decide) (hts _ (List.mem_cons_of_mem _ mw_3_85)) (fun _ h9 => h9) rfl dX8_goOn_97 ?_
      refine lv_sipush (v := 177) hx hb dX8_goOn_100 (by decide) ?_
      refine va_iald hx hb hK hP 1 0 rfl rfl (xi_in (by decide) (by decide)) dX8_goOn_103 ?_
      refine xk_top (z := x94) rfl ?_
      refine lv_aload_n hx hb dX8_goOn_104 rfl (lv_at hl 2 rfl) ?_
      refine va_get (D := D) (ci := 8) (v := .ref h1) (C := RX8) (T := TX8) (N := 14) hx hb hts xin8 hown hK hP 0 rfl rfl 0 (by decide) (hts _ (List.mem_cons_of_mem _ mw_3_85)) (fun _ h9 => h9) rfl dX8_goOn_105 ?_
      refine lv_bipush (v := 8) hx hb dX8_goOn_108 (by decide) ?_
      refine lv_iload_n hx hb dX8_goOn_110 rfl (lv_at hl 1 rfl) ?_
      refine lv_iadd hx hb dX8_goOn_111 ?_
      refine lv_topi (fun x111 e111 => ?_)
      have t111 : x111.toInt = 8 + ((z 176).toInt) := by rw [e111]; exact xi_add (by decide) rfl (by omega) (by omega)
      refine va_iald hx hb hK hP 1 0 rfl rfl (xi_in (by omega) (by omega)) dX8_goOn_112 ?_
      refine xk_top (z := (upd (upd (upd (upd z 178 x28) 178 0) 182 0) 177 x94) (8 + (z 176).toInt.toNat)) (xk_rd (by omega)) ?_
      refine lv_topi (fun x112 e112 => ?_)
      have e112 : x112 = z (8 + (z 176).toInt.toNat) := by rw [e112, upd_n _ _ _ (by omega), upd_n _ _ _ (by omega), upd_n _ _ _ (by omega), upd_n _ _ _ (by omega)]
      refine lv_icmp_ne (tgt := 137) hx hb dX8_goOn_113 (by decide) (fun c113 => ?_) (fun c113 => ?_)
      · have t113 : ¬ x94.toInt = x112.toInt := xi_ne rfl rfl c113
        have d113 : ¬ x94 = x112 := c113
        refine lv_aload_n hx hb dX8_goOn_137 rfl (lv_at hl 2 rfl) ?_
        refine va_get (D := D) (ci := 8) (v := .ref h1) (C := RX8) (T := TX8) (N := 14) hx hb hts xin8 hown hK hP 0 rfl rfl 0 (by decide) (hts _ (List.mem_cons_of_mem _ mw_3_85)) (fun _ h9 => h9) rfl dX8_goOn_138 ?_
        refine lv_sipush (v := 176) hx hb dX8_goOn_141 (by decide) ?_
        refine va_iald hx hb hK hP 1 0 rfl rfl (xi_in (by decide) (by decide)) dX8_goOn_144 ?_
        refine xk_top (z := z 176) rfl ?_
        refine lv_aload_n hx hb dX8_goOn_145 rfl (lv_at hl 2 rfl) ?_
        refine va_get (D := D) (ci := 8) (v := .ref h1) (C := RX8) (T := TX8) (N := 14) hx hb hts xin8 hown hK hP 0 rfl rfl 0 (by decide) (hts _ (List.mem_cons_of_mem _ mw_3_85)) (fun _ h9 => h9) rfl dX8_goOn_146 ?_
        refine lv_bipush (v := 6) hx hb dX8_goOn_149 (by decide) ?_
        refine va_iald hx hb hK hP 1 0 rfl rfl (xi_in (by decide) (by decide)) dX8_goOn_151 ?_
        refine xk_top (z := z 6) rfl ?_
        refine lv_icmp_ne (tgt := 181) hx hb dX8_goOn_152 (by decide) (fun c152 => ?_) (fun c152 => ?_)
        · have t152 : ¬ (z 176).toInt = (z 6).toInt := xi_ne rfl rfl c152
          have d152 : ¬ (z 176) = (z 6) := c152
          have hf : ¬ inFootZ z := by subst e112 e111 e94 e41 e28; exact Int.not_lt.mpr t44
          have hft : footEZ z = (upd (upd (upd (upd z 178 (z 178 + 1)) 178 0) 182 0) 177 (z 177 + 1)) := by rw [footEZ, if_neg b67]
          have hil : inLineZ z := by subst e112 e111 e94 e41 e28; exact d113
          have hln : lineEZ z = (upd (upd (upd (upd z 178 (z 178 + 1)) 178 0) 182 0) 177 (z 177 + 1)) := by rw [lineEZ, if_pos hil, hft]
          have hs : ¬ songEZ z := by subst e112 e111 e94 e41 e28; show ¬ lineEZ z 176 = z 6; rw [hln]; exact d152
          have hz : (upd (upd (upd (upd z 178 x28) 178 0) 182 0) 177 x94) = goOnZ z := by subst e112 e111 e94 e41 e28; rw [goOnZ, if_neg hf, if_neg hs, hln]
          have hg : gse = if (¬ inFootZ z ∧ songEZ z) then 1 else gse := by rw [if_neg (fun hh => hs hh.2)]
          exact xk_retv () hx hb hr hlocks (xk_P hP (by rw [hz, ← hg])) (by trivial) hS dX8_goOn_181 hQ
        · have t152 : (z 176).toInt = (z 6).toInt := xi_eq rfl rfl c152
          have d152 : (z 176) = (z 6) := c152
          refine lv_aload_n hx hb dX8_goOn_155 rfl (lv_at hl 2 rfl) ?_
          refine va_get (D := D) (ci := 8) (v := .ref h1) (C := RX8) (T := TX8) (N := 14) hx hb hts xin8 hown hK hP 0 rfl rfl 0 (by decide) (hts _ (List.mem_cons_of_mem _ mw_3_85)) (fun _ h9 => h9) rfl dX8_goOn_156 ?_
          refine lv_sipush (v := 176) hx hb dX8_goOn_159 (by decide) ?_
          refine lv_iconst (v := 0) hx hb dX8_goOn_162 (by decide) ?_
          refine va_iast hx hb hK hP hD hS 1 0 rfl rfl (xi_in (by decide) (by decide)) dX8_goOn_163 (fun H locs hP hD hS => ?_)
          have hP : va_P D vwCl [(h, .inr (8, [.ref h1, .ref h2, .ref h3, .int gst, .ref h4, .ref h5, .ref h6, .int gty, .int gse, .int gte, .int gsp, .ref h7, .ref h8, .int gtl])), (h1, .inl (cI, 190, .inl (upd (upd (upd (upd (upd z 178 x28) 178 0) 182 0) 177 x94) 176 0)))] H := hP
          have hD : va_D A [(h, .inr (8, [.ref h1, .ref h2, .ref h3, .int gst, .ref h4, .ref h5, .ref h6, .int gty, .int gse, .int gte, .int gsp, .ref h7, .ref h8, .int gtl])), (h1, .inl (cI, 190, .inl (upd (upd (upd (upd (upd z 178 x28) 178 0) 182 0) 177 x94) 176 0)))] := hD
          refine lv_aload_n hx hb dX8_goOn_164 rfl (lv_at hl 2 rfl) ?_
          refine va_get (D := D) (ci := 8) (v := .ref h1) (C := RX8) (T := TX8) (N := 14) hx hb hts xin8 hown hK hP 0 rfl rfl 0 (by decide) (hts _ (List.mem_cons_of_mem _ mw_3_85)) (fun _ h9 => h9) rfl dX8_goOn_165 ?_
          refine lv_sipush (v := 186) hx hb dX8_goOn_168 (by decide) ?_
          refine lv_dup2_11 hx hb dX8_goOn_171 rfl rfl ?_
          refine va_iald hx hb hK hP 1 0 rfl rfl (xi_in (by decide) (by decide)) dX8_goOn_172 ?_
          refine xk_top (z := z 186) rfl ?_
          refine lv_iconst (v := 1) hx hb dX8_goOn_173 (by decide) ?_
          refine lv_iadd hx hb dX8_goOn_174 ?_
          refine lv_topi (fun x174 e174 => ?_)
          refine va_iast hx hb hK hP hD hS 1 0 rfl rfl (xi_in (by decide) (by decide)) dX8_goOn_175 (fun H locs hP hD hS => ?_)
          have hP : va_P D vwCl [(h, .inr (8, [.ref h1, .ref h2, .ref h3, .int gst, .ref h4, .ref h5, .ref h6, .int gty, .int gse, .int gte, .int gsp, .ref h7, .ref h8, .int gtl])), (h1, .inl (cI, 190, .inl (upd (upd (upd (upd (upd (upd z 178 x28) 178 0) 182 0) 177 x94) 176 0) 186 x174)))] H := hP
          have hD : va_D A [(h, .inr (8, [.ref h1, .ref h2, .ref h3, .int gst, .ref h4, .ref h5, .ref h6, .int gty, .int gse, .int gte, .int gsp, .ref h7, .ref h8, .int gtl])), (h1, .inl (cI, 190, .inl (upd (upd (upd (upd (upd (upd z 178 x28) 178 0) 182 0) 177 x94) 176 0) 186 x174)))] := hD
          refine lv_aload_n hx hb dX8_goOn_176 rfl (lv_at hl 2 rfl) ?_
          refine lv_iconst (v := 1) hx hb dX8_goOn_177 (by decide) ?_
          refine va_put (D := D) (ci := 8) (v := .int 1) (ty := .boolean) (C := RX8) (T := TX8) (N := 14) hx hb hts xin8 tyX8 tyX8_ok nmX8 hown hK hP hD hS 0 rfl rfl 8 (by decide) (hts _ (List.mem_cons_of_mem _ mw_3_93)) (fun _ h9 => h9) rfl (by decide +kernel) rfl rfl (Nat.le_of_ble_eq_true rfl) dX8_goOn_178 (fun H locs hP hD hS => ?_)
          have hP : va_P D vwCl [(h, .inr (8, [.ref h1, .ref h2, .ref h3, .int gst, .ref h4, .ref h5, .ref h6, .int gty, .int 1, .int gte, .int gsp, .ref h7, .ref h8, .int gtl])), (h1, .inl (cI, 190, .inl (upd (upd (upd (upd (upd (upd z 178 x28) 178 0) 182 0) 177 x94) 176 0) 186 x174)))] H := hP
          have hD : va_D A [(h, .inr (8, [.ref h1, .ref h2, .ref h3, .int gst, .ref h4, .ref h5, .ref h6, .int gty, .int 1, .int gte, .int gsp, .ref h7, .ref h8, .int gtl])), (h1, .inl (cI, 190, .inl (upd (upd (upd (upd (upd (upd z 178 x28) 178 0) 182 0) 177 x94) 176 0) 186 x174)))] := hD
          have hf : ¬ inFootZ z := by subst e174 e112 e111 e94 e41 e28; exact Int.not_lt.mpr t44
          have hft : footEZ z = (upd (upd (upd (upd z 178 (z 178 + 1)) 178 0) 182 0) 177 (z 177 + 1)) := by rw [footEZ, if_neg b67]
          have hil : inLineZ z := by subst e174 e112 e111 e94 e41 e28; exact d113
          have hln : lineEZ z = (upd (upd (upd (upd z 178 (z 178 + 1)) 178 0) 182 0) 177 (z 177 + 1)) := by rw [lineEZ, if_pos hil, hft]
          have hs : songEZ z := by subst e174 e112 e111 e94 e41 e28; show lineEZ z 176 = z 6; rw [hln]; exact d152
          have hz : (upd (upd (upd (upd (upd (upd z 178 x28) 178 0) 182 0) 177 x94) 176 0) 186 x174) = goOnZ z := by subst e174 e112 e111 e94 e41 e28; rw [goOnZ, if_neg hf, if_pos hs, hln]
          have hg : 1 = if (¬ inFootZ z ∧ songEZ z) then 1 else gse := by rw [if_pos ⟨hf, hs⟩]
          exact xk_retv () hx hb hr hlocks (xk_P hP (by rw [hz, ← hg])) (by trivial) hS dX8_goOn_181 hQ
      · have t113 : x94.toInt = x112.toInt := xi_eq rfl rfl c113
        have d113 : x94 = x112 := c113
        refine lv_aload_n hx hb dX8_goOn_116 rfl (lv_at hl 2 rfl) ?_
        refine va_get (D := D) (ci := 8) (v := .ref h1) (C := RX8) (T := TX8) (N := 14) hx hb hts xin8 hown hK hP 0 rfl rfl 0 (by decide) (hts _ (List.mem_cons_of_mem _ mw_3_85)) (fun _ h9 => h9) rfl dX8_goOn_117 ?_
        refine lv_sipush (v := 177) hx hb dX8_goOn_120 (by decide) ?_
        refine lv_iconst (v := 0) hx hb dX8_goOn_123 (by decide) ?_
        refine va_iast hx hb hK hP hD hS 1 0 rfl rfl (xi_in (by decide) (by decide)) dX8_goOn_124 (fun H locs hP hD hS => ?_)
        have hP : va_P D vwCl [(h, .inr (8, [.ref h1, .ref h2, .ref h3, .int gst, .ref h4, .ref h5, .ref h6, .int gty, .int gse, .int gte, .int gsp, .ref h7, .ref h8, .int gtl])), (h1, .inl (cI, 190, .inl (upd (upd (upd (upd (upd z 178 x28) 178 0) 182 0) 177 x94) 177 0)))] H := hP
        have hD : va_D A [(h, .inr (8, [.ref h1, .ref h2, .ref h3, .int gst, .ref h4, .ref h5, .ref h6, .int gty, .int gse, .int gte, .int gsp, .ref h7, .ref h8, .int gtl])), (h1, .inl (cI, 190, .inl (upd (upd (upd (upd (upd z 178 x28) 178 0) 182 0) 177 x94) 177 0)))] := hD
        refine lv_aload_n hx hb dX8_goOn_125 rfl (lv_at hl 2 rfl) ?_
        refine va_get (D := D) (ci := 8) (v := .ref h1) (C := RX8) (T := TX8) (N := 14) hx hb hts xin8 hown hK hP 0 rfl rfl 0 (by decide) (hts _ (List.mem_cons_of_mem _ mw_3_85)) (fun _ h9 => h9) rfl dX8_goOn_126 ?_
        refine lv_sipush (v := 176) hx hb dX8_goOn_129 (by decide) ?_
        refine lv_dup2_11 hx hb dX8_goOn_132 rfl rfl ?_
        refine va_iald hx hb hK hP 1 0 rfl rfl (xi_in (by decide) (by decide)) dX8_goOn_133 ?_
        refine xk_top (z := z 176) rfl ?_
        refine lv_iconst (v := 1) hx hb dX8_goOn_134 (by decide) ?_
        refine lv_iadd hx hb dX8_goOn_135 ?_
        refine lv_topi (fun x135 e135 => ?_)
        refine va_iast hx hb hK hP hD hS 1 0 rfl rfl (xi_in (by decide) (by decide)) dX8_goOn_136 (fun H locs hP hD hS => ?_)
        have hP : va_P D vwCl [(h, .inr (8, [.ref h1, .ref h2, .ref h3, .int gst, .ref h4, .ref h5, .ref h6, .int gty, .int gse, .int gte, .int gsp, .ref h7, .ref h8, .int gtl])), (h1, .inl (cI, 190, .inl (upd (upd (upd (upd (upd (upd z 178 x28) 178 0) 182 0) 177 x94) 177 0) 176 x135)))] H := hP
        have hD : va_D A [(h, .inr (8, [.ref h1, .ref h2, .ref h3, .int gst, .ref h4, .ref h5, .ref h6, .int gty, .int gse, .int gte, .int gsp, .ref h7, .ref h8, .int gtl])), (h1, .inl (cI, 190, .inl (upd (upd (upd (upd (upd (upd z 178 x28) 178 0) 182 0) 177 x94) 177 0) 176 x135)))] := hD
        refine lv_aload_n hx hb dX8_goOn_137 rfl (lv_at hl 2 rfl) ?_
        refine va_get (D := D) (ci := 8) (v := .ref h1) (C := RX8) (T := TX8) (N := 14) hx hb hts xin8 hown hK hP 0 rfl rfl 0 (by decide) (hts _ (List.mem_cons_of_mem _ mw_3_85)) (fun _ h9 => h9) rfl dX8_goOn_138 ?_
        refine lv_sipush (v := 176) hx hb dX8_goOn_141 (by decide) ?_
        refine va_iald hx hb hK hP 1 0 rfl rfl (xi_in (by decide) (by decide)) dX8_goOn_144 ?_
        refine xk_top (z := x135) rfl ?_
        refine lv_aload_n hx hb dX8_goOn_145 rfl (lv_at hl 2 rfl) ?_
        refine va_get (D := D) (ci := 8) (v := .ref h1) (C := RX8) (T := TX8) (N := 14) hx hb hts xin8 hown hK hP 0 rfl rfl 0 (by decide) (hts _ (List.mem_cons_of_mem _ mw_3_85)) (fun _ h9 => h9) rfl dX8_goOn_146 ?_
        refine lv_bipush (v := 6) hx hb dX8_goOn_149 (by decide) ?_
        refine va_iald hx hb hK hP 1 0 rfl rfl (xi_in (by decide) (by decide)) dX8_goOn_151 ?_
        refine xk_top (z := z 6) rfl ?_
        refine lv_icmp_ne (tgt := 181) hx hb dX8_goOn_152 (by decide) (fun c152 => ?_) (fun c152 => ?_)
        · have t152 : ¬ x135.toInt = (z 6).toInt := xi_ne rfl rfl c152
          have d152 : ¬ x135 = (z 6) := c152
          have hf : ¬ inFootZ z := by subst e135 e112 e111 e94 e41 e28; exact Int.not_lt.mpr t44
          have hft : footEZ z = (upd (upd (upd (upd z 178 (z 178 + 1)) 178 0) 182 0) 177 (z 177 + 1)) := by rw [footEZ, if_neg b67]
          have hil : ¬ inLineZ z := by subst e135 e112 e111 e94 e41 e28; exact fun hh => hh d113
          have hln : lineEZ z = (upd (upd (upd (upd (upd (upd z 178 (z 178 + 1)) 178 0) 182 0) 177 (z 177 + 1)) 177 0) 176 (z 176 + 1)) := by rw [lineEZ, if_neg hil, hft]
          have hs : ¬ songEZ z := by subst e135 e112 e111 e94 e41 e28; show ¬ lineEZ z 176 = z 6; rw [hln]; exact d152
          have hz : (upd (upd (upd (upd (upd (upd z 178 x28) 178 0) 182 0) 177 x94) 177 0) 176 x135) = goOnZ z := by subst e135 e112 e111 e94 e41 e28; rw [goOnZ, if_neg hf, if_neg hs, hln]
          have hg : gse = if (¬ inFootZ z ∧ songEZ z) then 1 else gse := by rw [if_neg (fun hh => hs hh.2)]
          exact xk_retv () hx hb hr hlocks (xk_P hP (by rw [hz, ← hg])) (by trivial) hS dX8_goOn_181 hQ
        · have t152 : x135.toInt = (z 6).toInt := xi_eq rfl rfl c152
          have d152 : x135 = (z 6) := c152
          refine lv_aload_n hx hb dX8_goOn_155 rfl (lv_at hl 2 rfl) ?_
          refine va_get (D := D) (ci := 8) (v := .ref h1) (C := RX8) (T := TX8) (N := 14) hx hb hts xin8 hown hK hP 0 rfl rfl 0 (by decide) (hts _ (List.mem_cons_of_mem _ mw_3_85)) (fun _ h9 => h9) rfl dX8_goOn_156 ?_
          refine lv_sipush (v := 176) hx hb dX8_goOn_159 (by decide) ?_
          refine lv_iconst (v := 0) hx hb dX8_goOn_162 (by decide) ?_
          refine va_iast hx hb hK hP hD hS 1 0 rfl rfl (xi_in (by decide) (by decide)) dX8_goOn_163 (fun H locs hP hD hS => ?_)
          have hP : va_P D vwCl [(h, .inr (8, [.ref h1, .ref h2, .ref h3, .int gst, .ref h4, .ref h5, .ref h6, .int gty, .int gse, .int gte, .int gsp, .ref h7, .ref h8, .int gtl])), (h1, .inl (cI, 190, .inl (upd (upd (upd (upd (upd (upd (upd z 178 x28) 178 0) 182 0) 177 x94) 177 0) 176 x135) 176 0)))] H := hP
          have hD : va_D A [(h, .inr (8, [.ref h1, .ref h2, .ref h3, .int gst, .ref h4, .ref h5, .ref h6, .int gty, .int gse, .int gte, .int gsp, .ref h7, .ref h8, .int gtl])), (h1, .inl (cI, 190, .inl (upd (upd (upd (upd (upd (upd (upd z 178 x28) 178 0) 182 0) 177 x94) 177 0) 176 x135) 176 0)))] := hD
          refine lv_aload_n hx hb dX8_goOn_164 rfl (lv_at hl 2 rfl) ?_
          refine va_get (D := D) (ci := 8) (v := .ref h1) (C := RX8) (T := TX8) (N := 14) hx hb hts xin8 hown hK hP 0 rfl rfl 0 (by decide) (hts _ (List.mem_cons_of_mem _ mw_3_85)) (fun _ h9 => h9) rfl dX8_goOn_165 ?_
          refine lv_sipush (v := 186) hx hb dX8_goOn_168 (by decide) ?_
          refine lv_dup2_11 hx hb dX8_goOn_171 rfl rfl ?_
          refine va_iald hx hb hK hP 1 0 rfl rfl (xi_in (by decide) (by decide)) dX8_goOn_172 ?_
          refine xk_top (z := z 186) rfl ?_
          refine lv_iconst (v := 1) hx hb dX8_goOn_173 (by decide) ?_
          refine lv_iadd hx hb dX8_goOn_174 ?_
          refine lv_topi (fun x174 e174 => ?_)
          refine va_iast hx hb hK hP hD hS 1 0 rfl rfl (xi_in (by decide) (by decide)) dX8_goOn_175 (fun H locs hP hD hS => ?_)
          have hP : va_P D vwCl [(h, .inr (8, [.ref h1, .ref h2, .ref h3, .int gst, .ref h4, .ref h5, .ref h6, .int gty, .int gse, .int gte, .int gsp, .ref h7, .ref h8, .int gtl])), (h1, .inl (cI, 190, .inl (upd (upd (upd (upd (upd (upd (upd (upd z 178 x28) 178 0) 182 0) 177 x94) 177 0) 176 x135) 176 0) 186 x174)))] H := hP
          have hD : va_D A [(h, .inr (8, [.ref h1, .ref h2, .ref h3, .int gst, .ref h4, .ref h5, .ref h6, .int gty, .int gse, .int gte, .int gsp, .ref h7, .ref h8, .int gtl])), (h1, .inl (cI, 190, .inl (upd (upd (upd (upd (upd (upd (upd (upd z 178 x28) 178 0) 182 0) 177 x94) 177 0) 176 x135) 176 0) 186 x174)))] := hD
          refine lv_aload_n hx hb dX8_goOn_176 rfl (lv_at hl 2 rfl) ?_
          refine lv_iconst (v := 1) hx hb dX8_goOn_177 (by decide) ?_
          refine va_put (D := D) (ci := 8) (v := .int 1) (ty := .boolean) (C := RX8) (T := TX8) (N := 14) hx hb hts xin8 tyX8 tyX8_ok nmX8 hown hK hP hD hS 0 rfl rfl 8 (by decide) (hts _ (List.mem_cons_of_mem _ mw_3_93)) (fun _ h9 => h9) rfl (by decide +kernel) rfl rfl (Nat.le_of_ble_eq_true rfl) dX8_goOn_178 (fun H locs hP hD hS => ?_)
          have hP : va_P D vwCl [(h, .inr (8, [.ref h1, .ref h2, .ref h3, .int gst, .ref h4, .ref h5, .ref h6, .int gty, .int 1, .int gte, .int gsp, .ref h7, .ref h8, .int gtl])), (h1, .inl (cI, 190, .inl (upd (upd (upd (upd (upd (upd (upd (upd z 178 x28) 178 0) 182 0) 177 x94) 177 0) 176 x135) 176 0) 186 x174)))] H := hP
          have hD : va_D A [(h, .inr (8, [.ref h1, .ref h2, .ref h3, .int gst, .ref h4, .ref h5, .ref h6, .int gty, .int 1, .int gte, .int gsp, .ref h7, .ref h8, .int gtl])), (h1, .inl (cI, 190, .inl (upd (upd (upd (upd (upd (upd (upd (upd z 178 x28) 178 0) 182 0) 177 x94) 177 0) 176 x135) 176 0) 186 x174)))] := hD
          have hf : ¬ inFootZ z := by subst e174 e135 e112 e111 e94 e41 e28; exact Int.not_lt.mpr t44
          have hft : footEZ z = (upd (upd (upd (upd z 178 (z 178 + 1)) 178 0) 182 0) 177 (z 177 + 1)) := by rw [footEZ, if_neg b67]
          have hil : ¬ inLineZ z := by subst e174 e135 e112 e111 e94 e41 e28; exact fun hh => hh d113
          have hln : lineEZ z = (upd (upd (upd (upd (upd (upd z 178 (z 178 + 1)) 178 0) 182 0) 177 (z 177 + 1)) 177 0) 176 (z 176 + 1)) := by rw [lineEZ, if_neg hil, hft]
          have hs : songEZ z := by subst e174 e135 e112 e111 e94 e41 e28; show lineEZ z 176 = z 6; rw [hln]; exact d152
          have hz : (upd (upd (upd (upd (upd (upd (upd (upd z 178 x28) 178 0) 182 0) 177 x94) 177 0) 176 x135) 176 0) 186 x174) = goOnZ z := by subst e174 e135 e112 e111 e94 e41 e28; rw [goOnZ, if_neg hf, if_pos hs, hln]
          have hg : 1 = if (¬ inFootZ z ∧ songEZ z) then 1 else gse := by rw [if_pos ⟨hf, hs⟩]
          exact xk_retv () hx hb hr hlocks (xk_P hP (by rw [hz, ← hg])) (by trivial) hS dX8_goOn_181 hQ
  · have t44 : x28.toInt < r41.toInt := xi_nle rfl rfl c44
    have hf : inFootZ z := by subst e41 e28; exact t44
    have hz : (upd z 178 x28) = goOnZ z := by subst e41 e28; rw [goOnZ, if_pos hf]
    have hg : gse = if (¬ inFootZ z ∧ songEZ z) then 1 else gse := by rw [if_neg (fun hh => hh.1 hf)]
    exact xk_retv () hx hb hr hlocks (xk_P hP (by rw [hz, ← hg])) (by trivial) hS dX8_goOn_47 hQ
end
section
set_option maxHeartbeats 4000000 in
set_option maxRecDepth 100000 in
theorem c_X8_beat (l : Launch) (D : va_G) (cI cZ cS : ClassId) (h h1 h2 h3 h4 h5 h6 h7 h8 : Nat) (gst gty gse gte gsp gtl : Int32) (z : Nat → Int32)  (ha : atZ z) (h5m : ¬ z 5 = 0) (hi : 0 ≤ (z 176).toInt ∧ (z 176).toInt ≤ 9 ∧ 0 ≤ (z 177).toInt ∧ (z 177).toInt ≤ 11) : xMv l yX8_beat cX8_beat 2 none ({ frames := 2, cells := 0, slots := 0, locals := 44 } : Room) D (xTy cI cZ cS) [.ref h] [(h, .inr (8, [.ref h1, .ref h2, .ref h3, .int gst, .ref h4, .ref h5, .ref h6, .int gty, .int gse, .int gte, .int gsp, .ref h7, .ref h8, .int gtl])), (h1, .inl (cI, 190, .inl z))] (fun (_ : Unit) => True) (fun (_ : Unit) => [(h, .inr (8, [.ref h1, .ref h2, .ref h3, .int gst, .ref h4, .ref h5, .ref h6, .int gty, .int (if endG z then 1 else 0), .int (if endS z then 1 else 0), .int gsp, .ref h7, .ref h8, .int gtl])), (h1, .inl (cI, 190, .inl (beatZ z)))]) := by
  refine xk_bodyv (by decide) (Nat.le_of_ble_eq_true rfl) ?_
  intro p e s m below meth c A ls args Q hx hb hr hts hown hlocks hml hin hK hP hD hS hA hN hZ hl hQ
  have hl : lv_has ls 2 [(0, .ref h)] := hl
  have ha0 := ha
  obtain ⟨ha1, ha2⟩ := ha
  refine lv_iconst (v := 1) hx hb dX8_beat_0 (by decide) ?_
  refine lv_aload_n hx hb dX8_beat_1 rfl (lv_at hl 0 rfl) ?_
  refine xk_Vi (As := []) (rest := [.int 1]) hx hb hml hown hts hK hN hZ hP hD hS hA mb_X8_climb mw_3_166 mw_3_168 mw_0_9 (c_X8_climb l D cI cZ cS h h1 h2 h3 h4 h5 h6 h7 h8 gst gty gse gte gsp gtl z (by exact ha0)) [0, 1] 0 8 rfl rfl (by decide) rfl (fun _ => rfl) (by decide) (by decide) rfl hl.1 rfl (Nat.le_of_ble_eq_true rfl) dX8_beat_2 ⟨Nat.zero_le _, Nat.zero_le _⟩ (fun r2 _ H locs hw hP hD hS => ?_)
  have hP : va_P D vwCl [(h, .inr (8, [.ref h1, .ref h2, .ref h3, .int gst, .ref h4, .ref h5, .ref h6, .int gty, .int gse, .int gte, .int gsp, .ref h7, .ref h8, .int gtl])), (h1, .inl (cI, 190, .inl z))] H := hP
  have hD : va_D A [(h, .inr (8, [.ref h1, .ref h2, .ref h3, .int gst, .ref h4, .ref h5, .ref h6, .int gty, .int gse, .int gte, .int gsp, .ref h7, .ref h8, .int gtl])), (h1, .inl (cI, 190, .inl z))] := hD
  have e2 : r2 = climbZ z := hw
  refine lv_iadd hx hb dX8_beat_5 ?_
  refine lv_topi (fun x5 e5 => ?_)
  refine lv_istore_n (lv' := [(1, .int x5), (0, .ref h)]) hx hb dX8_beat_6 rfl hl (by decide) rfl (fun ls hl => ?_)
  refine lv_aload_n hx hb dX8_beat_7 rfl (lv_at hl 1 rfl) ?_
  refine lv_iconst (v := 0) hx hb dX8_beat_8 (by decide) ?_
  refine va_put (D := D) (ci := 8) (v := .int 0) (ty := .boolean) (C := RX8) (T := TX8) (N := 14) hx hb hts xin8 tyX8 tyX8_ok nmX8 hown hK hP hD hS 0 rfl rfl 8 (by decide) (hts _ (List.mem_cons_of_mem _ mw_3_93)) (fun _ h9 => h9) rfl (by decide +kernel) rfl rfl (Nat.le_of_ble_eq_true rfl) dX8_beat_9 (fun H locs hP hD hS => ?_)
  have hP : va_P D vwCl [(h, .inr (8, [.ref h1, .ref h2, .ref h3, .int gst, .ref h4, .ref h5, .ref h6, .int gty, .int 0, .int gte, .int gsp, .ref h7, .ref h8, .int gtl])), (h1, .inl (cI, 190, .inl z))] H := hP
  have hD : va_D A [(h, .inr (8, [.ref h1, .ref h2, .ref h3, .int gst, .ref h4, .ref h5, .ref h6, .int gty, .int 0, .int gte, .int gsp, .ref h7, .ref h8, .int gtl])), (h1, .inl (cI, 190, .inl z))] := hD
  refine lv_aload_n hx hb dX8_beat_12 rfl (lv_at hl 1 rfl) ?_
  refine lv_iconst (v := 0) hx hb dX8_beat_13 (by decide) ?_
  refine va_put (D := D) (ci := 8) (v := .int 0) (ty := .boolean) (C := RX8) (T := TX8) (N := 14) hx hb hts xin8 tyX8 tyX8_ok nmX8 hown hK hP hD hS 0 rfl rfl 9 (by decide) (hts _ (List.mem_cons_of_mem _ mw_3_94)) (fun _ h9 => h9) rfl (by decide +kernel) rfl rfl (Nat.le_of_ble_eq_true rfl) dX8_beat_14 (fun H locs hP hD hS => ?_)
  have hP : va_P D vwCl [(h, .inr (8, [.ref h1, .ref h2, .ref h3, .int gst, .ref h4, .ref h5, .ref h6, .int gty, .int 0, .int 0, .int gsp, .ref h7, .ref h8, .int gtl])), (h1, .inl (cI, 190, .inl z))] H := hP
  have hD : va_D A [(h, .inr (8, [.ref h1, .ref h2, .ref h3, .int gst, .ref h4, .ref h5, .ref h6, .int gty, .int 0, .int 0, .int gsp, .ref h7, .ref h8, .int gtl])), (h1, .inl (cI, 190, .inl z))] := hD
  refine lv_aload_n hx hb dX8_beat_17 rfl (lv_at hl 1 rfl) ?_
  refine va_get (D := D) (ci := 8) (v := .ref h1) (C := RX8) (T := TX8) (N := 14) hx hb hts xin8 hown hK hP 0 rfl rfl 0 (by decide) (hts _ (List.mem_cons_of_mem _ mw_3_85)) (fun _ h9 => h9) rfl dX8_beat_18 ?_
  refine lv_sipush (v := 174) hx hb dX8_beat_21 (by decide) ?_
  refine lv_dup2_11 hx hb dX8_beat_24 rfl rfl ?_
  refine va_iald hx hb hK hP 1 0 rfl rfl (xi_in (by decide) (by decide)) dX8_beat_25 ?_
  refine xk_top (z := z 174) rfl ?_
  refine lv_iconst (v := 1) hx hb dX8_beat_26 (by decide) ?_
  refine lv_iadd hx hb dX8_beat_27 ?_
  refine lv_topi (fun x27 e27 => ?_)
  refine va_iast hx hb hK hP hD hS 1 0 rfl rfl (xi_in (by decide) (by decide)) dX8_beat_28 (fun H locs hP hD hS => ?_)
  have hP : va_P D vwCl [(h, .inr (8, [.ref h1, .ref h2, .ref h3, .int gst, .ref h4, .ref h5, .ref h6, .int gty, .int 0, .int 0, .int gsp, .ref h7, .ref h8, .int gtl])), (h1, .inl (cI, 190, .inl (upd z 174 x27)))] H := hP
  have hD : va_D A [(h, .inr (8, [.ref h1, .ref h2, .ref h3, .int gst, .ref h4, .ref h5, .ref h6, .int gty, .int 0, .int 0, .int gsp, .ref h7, .ref h8, .int gtl])), (h1, .inl (cI, 190, .inl (upd z 174 x27)))] := hD
  refine lv_aload_n hx hb dX8_beat_29 rfl (lv_at hl 1 rfl) ?_
  refine va_get (D := D) (ci := 8) (v := .ref h1) (C := RX8) (T := TX8) (N := 14) hx hb hts xin8 hown hK hP 0 rfl rfl 0 (by decide) (hts _ (List.mem_cons_of_mem _ mw_3_85)) (fun _ h9 => h9) rfl dX8_beat_30 ?_
  refine lv_sipush (v := 182) hx hb dX8_beat_33 (by decide) ?_
  refine va_iald hx hb hK hP 1 0 rfl rfl (xi_in (by decide) (by decide)) dX8_beat_36 ?_
  refine xk_top (z := z 182) rfl ?_
  refine lv_if_ne (tgt := 78) hx hb dX8_beat_37 (by decide) (fun c37 => ?_) (fun c37 => ?_)
  · have t37 : ¬ (z 182).toInt = 0 := xi_ne rfl (by decide) c37
    have d37 : ¬ (z 182) = 0 := c37
    refine lv_aload_n hx hb dX8_beat_78 rfl (lv_at hl 1 rfl) ?_
    refine va_get (D := D) (ci := 8) (v := .ref h1) (C := RX8) (T := TX8) (N := 14) hx hb hts xin8 hown hK hP 0 rfl rfl 0 (by decide) (hts _ (List.mem_cons_of_mem _ mw_3_85)) (fun _ h9 => h9) rfl dX8_beat_79 ?_
    refine lv_sipush (v := 175) hx hb dX8_beat_82 (by decide) ?_
    refine lv_dup2_11 hx hb dX8_beat_85 rfl rfl ?_
    refine va_iald hx hb hK hP 1 0 rfl rfl (xi_in (by decide) (by decide)) dX8_beat_86 ?_
    refine xk_top (z := z 175) rfl ?_
    refine lv_aload_n hx hb dX8_beat_87 rfl (lv_at hl 1 rfl) ?_
    refine va_get (D := D) (ci := 8) (v := .ref h1) (C := RX8) (T := TX8) (N := 14) hx hb hts xin8 hown hK hP 0 rfl rfl 0 (by decide) (hts _ (List.mem_cons_of_mem _ mw_3_85)) (fun _ h9 => h9) rfl dX8_beat_88 ?_
    refine lv_iconst (v := 0) hx hb dX8_beat_91 (by decide) ?_
    refine va_iald hx hb hK hP 1 0 rfl rfl (xi_in (by decide) (by decide)) dX8_beat_92 ?_
    refine xk_top (z := z 0) rfl ?_
    refine lv_iadd hx hb dX8_beat_93 ?_
    refine lv_topi (fun x93 e93 => ?_)
    refine va_iast hx hb hK hP hD hS 1 0 rfl rfl (xi_in (by decide) (by decide)) dX8_beat_94 (fun H locs hP hD hS => ?_)
    have hP : va_P D vwCl [(h, .inr (8, [.ref h1, .ref h2, .ref h3, .int gst, .ref h4, .ref h5, .ref h6, .int gty, .int 0, .int 0, .int gsp, .ref h7, .ref h8, .int gtl])), (h1, .inl (cI, 190, .inl (upd (upd z 174 x27) 175 x93)))] H := hP
    have hD : va_D A [(h, .inr (8, [.ref h1, .ref h2, .ref h3, .int gst, .ref h4, .ref h5, .ref h6, .int gty, .int 0, .int 0, .int gsp, .ref h7, .ref h8, .int gtl])), (h1, .inl (cI, 190, .inl (upd (upd z 174 x27) 175 x93)))] := hD
    have hg : ¬ gaspZ z := by subst e93 e27 e5 e2; exact fun hh => d37 hh.1
    have f95 : (upd (upd z 174 x27) 175 x93) = preZ z := by subst e93 e27 e5 e2; rw [preZ, if_neg hg]
    rw [f95] at hP hD
    have hP : va_P D vwCl [(h, .inr (8, [.ref h1, .ref h2, .ref h3, .int gst, .ref h4, .ref h5, .ref h6, .int gty, .int 0, .int 0, .int gsp, .ref h7, .ref h8, .int gtl])), (h1, .inl (cI, 190, .inl (preZ z)))] H := hP
    have hD : va_D A [(h, .inr (8, [.ref h1, .ref h2, .ref h3, .int gst, .ref h4, .ref h5, .ref h6, .int gty, .int 0, .int 0, .int gsp, .ref h7, .ref h8, .int gtl])), (h1, .inl (cI, 190, .inl (preZ z)))] := hD
    obtain ⟨g95_1, hg95_1⟩ : ∃ g, g = (preZ z) := ⟨_, rfl⟩
    rw [← hg95_1] at hP hD
    have hP : va_P D vwCl [(h, .inr (8, [.ref h1, .ref h2, .ref h3, .int gst, .ref h4, .ref h5, .ref h6, .int gty, .int 0, .int 0, .int gsp, .ref h7, .ref h8, .int gtl])), (h1, .inl (cI, 190, .inl g95_1))] H := hP
    have hD : va_D A [(h, .inr (8, [.ref h1, .ref h2, .ref h3, .int gst, .ref h4, .ref h5, .ref h6, .int gty, .int 0, .int 0, .int gsp, .ref h7, .ref h8, .int gtl])), (h1, .inl (cI, 190, .inl g95_1))] := hD
    refine lv_aload_n hx hb dX8_beat_95 rfl (lv_at hl 1 rfl) ?_
    refine va_get (D := D) (ci := 8) (v := .ref h1) (C := RX8) (T := TX8) (N := 14) hx hb hts xin8 hown hK hP 0 rfl rfl 0 (by decide) (hts _ (List.mem_cons_of_mem _ mw_3_85)) (fun _ h9 => h9) rfl dX8_beat_96 ?_
    refine lv_sipush (v := 182) hx hb dX8_beat_99 (by decide) ?_
    refine va_iald hx hb hK hP 1 0 rfl rfl (xi_in (by decide) (by decide)) dX8_beat_102 ?_
    refine xk_top (z := g95_1 182) rfl ?_
    refine lv_if_le (tgt := 175) hx hb dX8_beat_103 (by decide) (fun c103 => ?_) (fun c103 => ?_)
    · have t103 : (g95_1 182).toInt ≤ 0 := xi_le rfl (by decide) c103
      refine lv_aload_n hx hb dX8_beat_175 rfl (lv_at hl 1 rfl) ?_
      refine va_get (D := D) (ci := 8) (v := .ref h1) (C := RX8) (T := TX8) (N := 14) hx hb hts xin8 hown hK hP 0 rfl rfl 0 (by decide) (hts _ (List.mem_cons_of_mem _ mw_3_85)) (fun _ h9 => h9) rfl dX8_beat_176 ?_
      refine lv_sipush (v := 181) hx hb dX8_beat_179 (by decide) ?_
      refine lv_dup2_11 hx hb dX8_beat_182 rfl rfl ?_
      refine va_iald hx hb hK hP 1 0 rfl rfl (xi_in (by decide) (by decide)) dX8_beat_183 ?_
      refine xk_top (z := g95_1 181) rfl ?_
      refine lv_iload_n hx hb dX8_beat_184 rfl (lv_at hl 0 rfl) ?_
      refine lv_isub hx hb dX8_beat_185 ?_
      refine lv_topi (fun x185 e185 => ?_)
      refine va_iast hx hb hK hP hD hS 1 0 rfl rfl (xi_in (by decide) (by decide)) dX8_beat_186 (fun H locs hP hD hS => ?_)
      have hP : va_P D vwCl [(h, .inr (8, [.ref h1, .ref h2, .ref h3, .int gst, .ref h4, .ref h5, .ref h6, .int gty, .int 0, .int 0, .int gsp, .ref h7, .ref h8, .int gtl])), (h1, .inl (cI, 190, .inl (upd g95_1 181 x185)))] H := hP
      have hD : va_D A [(h, .inr (8, [.ref h1, .ref h2, .ref h3, .int gst, .ref h4, .ref h5, .ref h6, .int gty, .int 0, .int 0, .int gsp, .ref h7, .ref h8, .int gtl])), (h1, .inl (cI, 190, .inl (upd g95_1 181 x185)))] := hD
      refine lv_aload_n hx hb dX8_beat_187 rfl (lv_at hl 1 rfl) ?_
      refine va_get (D := D) (ci := 8) (v := .ref h1) (C := RX8) (T := TX8) (N := 14) hx hb hts xin8 hown hK hP 0 rfl rfl 0 (by decide) (hts _ (List.mem_cons_of_mem _ mw_3_85)) (fun _ h9 => h9) rfl dX8_beat_188 ?_
      refine lv_sipush (v := 175) hx hb dX8_beat_191 (by decide) ?_
      refine lv_dup2_11 hx hb dX8_beat_194 rfl rfl ?_
      refine va_iald hx hb hK hP 1 0 rfl rfl (xi_in (by decide) (by decide)) dX8_beat_195 ?_
      refine xk_top (z := g95_1 175) rfl ?_
      refine lv_aload_n hx hb dX8_beat_196 rfl (lv_at hl 1 rfl) ?_
      refine xk_Vi (As := []) (rest := [.int (g95_1 175), .int 175, .ref h1]) hx hb hml hown hts hK hN hZ hP hD hS hA mb_X8_climb mw_3_166 mw_3_168 mw_0_9 (c_X8_climb l D cI cZ cS h h1 h2 h3 h4 h5 h6 h7 h8 gst gty (0 : Int32) (0 : Int32) gsp gtl (upd g95_1 181 x185) (by unfold atZ; rw [upd_n _ _ _ (by omega), hg95_1, preZ_o z (by omega) (by omega) (by omega) (by omega)]; exact ha0)) [0, 1] 0 8 rfl rfl (by decide) rfl (fun _ => rfl) (by decide) (by decide) rfl hl.1 rfl (Nat.le_of_ble_eq_true rfl) dX8_beat_197 ⟨Nat.zero_le _, Nat.zero_le _⟩ (fun r197 _ H locs hw hP hD hS => ?_)
      have hP : va_P D vwCl [(h, .inr (8, [.ref h1, .ref h2, .ref h3, .int gst, .ref h4, .ref h5, .ref h6, .int gty, .int 0, .int 0, .int gsp, .ref h7, .ref h8, .int gtl])), (h1, .inl (cI, 190, .inl (upd g95_1 181 x185)))] H := hP
      have hD : va_D A [(h, .inr (8, [.ref h1, .ref h2, .ref h3, .int gst, .ref h4, .ref h5, .ref h6, .int gty, .int 0, .int 0, .int gsp, .ref h7, .ref h8, .int gtl])), (h1, .inl (cI, 190, .inl (upd g95_1 181 x185)))] := hD
      have e197 : r197 = climbZ (upd g95_1 181 x185) := hw
      have e197 : r197 = climbZ z := by rw [e197, climbZ_upd _ (by unfold atZ; rw [hg95_1, preZ_o z (by omega) (by omega) (by omega) (by omega)]; exact ha0) _ (by omega) (by omega), hg95_1, climbZ_pre z ha0]
      refine lv_iadd hx hb dX8_beat_200 ?_
      refine lv_topi (fun x200 e200 => ?_)
      refine va_iast hx hb hK hP hD hS 1 0 rfl rfl (xi_in (by decide) (by decide)) dX8_beat_201 (fun H locs hP hD hS => ?_)
      have hP : va_P D vwCl [(h, .inr (8, [.ref h1, .ref h2, .ref h3, .int gst, .ref h4, .ref h5, .ref h6, .int gty, .int 0, .int 0, .int gsp, .ref h7, .ref h8, .int gtl])), (h1, .inl (cI, 190, .inl (upd (upd g95_1 181 x185) 175 x200)))] H := hP
      have hD : va_D A [(h, .inr (8, [.ref h1, .ref h2, .ref h3, .int gst, .ref h4, .ref h5, .ref h6, .int gty, .int 0, .int 0, .int gsp, .ref h7, .ref h8, .int gtl])), (h1, .inl (cI, 190, .inl (upd (upd g95_1 181 x185) 175 x200)))] := hD
      refine lv_aload_n hx hb dX8_beat_202 rfl (lv_at hl 1 rfl) ?_
      refine va_get (D := D) (ci := 8) (v := .ref h1) (C := RX8) (T := TX8) (N := 14) hx hb hts xin8 hown hK hP 0 rfl rfl 0 (by decide) (hts _ (List.mem_cons_of_mem _ mw_3_85)) (fun _ h9 => h9) rfl dX8_beat_203 ?_
      refine lv_sipush (v := 187) hx hb dX8_beat_206 (by decide) ?_
      refine lv_dup2_11 hx hb dX8_beat_209 rfl rfl ?_
      refine va_iald hx hb hK hP 1 0 rfl rfl (xi_in (by decide) (by decide)) dX8_beat_210 ?_
      refine xk_top (z := g95_1 187) rfl ?_
      refine lv_iconst (v := 1) hx hb dX8_beat_211 (by decide) ?_
      refine lv_iadd hx hb dX8_beat_212 ?_
      refine lv_topi (fun x212 e212 => ?_)
      refine va_iast hx hb hK hP hD hS 1 0 rfl rfl (xi_in (by decide) (by decide)) dX8_beat_213 (fun H locs hP hD hS => ?_)
      have hP : va_P D vwCl [(h, .inr (8, [.ref h1, .ref h2, .ref h3, .int gst, .ref h4, .ref h5, .ref h6, .int gty, .int 0, .int 0, .int gsp, .ref h7, .ref h8, .int gtl])), (h1, .inl (cI, 190, .inl (upd (upd (upd g95_1 181 x185) 175 x200) 187 x212)))] H := hP
      have hD : va_D A [(h, .inr (8, [.ref h1, .ref h2, .ref h3, .int gst, .ref h4, .ref h5, .ref h6, .int gty, .int 0, .int 0, .int gsp, .ref h7, .ref h8, .int gtl])), (h1, .inl (cI, 190, .inl (upd (upd (upd g95_1 181 x185) 175 x200) 187 x212)))] := hD
      have f214 : (upd (upd (upd g95_1 181 x185) 175 x200) 187 x212) = singZ z := by subst e212 e200 e197 e185; subst e5; subst e2; rw [singZ, ← hg95_1]; rfl
      rw [f214] at hP hD
      have hP : va_P D vwCl [(h, .inr (8, [.ref h1, .ref h2, .ref h3, .int gst, .ref h4, .ref h5, .ref h6, .int gty, .int 0, .int 0, .int gsp, .ref h7, .ref h8, .int gtl])), (h1, .inl (cI, 190, .inl (singZ z)))] H := hP
      have hD : va_D A [(h, .inr (8, [.ref h1, .ref h2, .ref h3, .int gst, .ref h4, .ref h5, .ref h6, .int gty, .int 0, .int 0, .int gsp, .ref h7, .ref h8, .int gtl])), (h1, .inl (cI, 190, .inl (singZ z)))] := hD
      obtain ⟨g214_1, hg214_1⟩ : ∃ g, g = (singZ z) := ⟨_, rfl⟩
      rw [← hg214_1] at hP hD
      have hP : va_P D vwCl [(h, .inr (8, [.ref h1, .ref h2, .ref h3, .int gst, .ref h4, .ref h5, .ref h6, .int gty, .int 0, .int 0, .int gsp, .ref h7, .ref h8, .int gtl])), (h1, .inl (cI, 190, .inl g214_1))] H := hP
      have hD : va_D A [(h, .inr (8, [.ref h1, .ref h2, .ref h3, .int gst, .ref h4, .ref h5, .ref h6, .int gty, .int 0, .int 0, .int gsp, .ref h7, .ref h8, .int gtl])), (h1, .inl (cI, 190, .inl g214_1))] := hD
      have hrz : ¬ restZ z := by show ¬ 0 < (preZ z 182).toInt; rw [← hg95_1]; exact Int.not_lt.mpr t103
      have hsa : atZ g214_1 := by rw [hg214_1]; unfold atZ; rw [singZ_o z (by omega) (by omega) (by omega) (by omega) (by omega) (by omega)]; exact ha0
      refine lv_aload_n hx hb dX8_beat_214 rfl (lv_at hl 1 rfl) ?_
      refine xk_Vv (As := []) (rest := []) hx hb hml hown hts hK hN hZ hP hD hS hA mb_X8_step mw_3_174 mw_3_176 mw_0_11 (c_X8_step l D cI cZ cS h h1 h2 h3 h4 h5 h6 h7 h8 gst gty (0 : Int32) (0 : Int32) gsp gtl g214_1 (by exact hsa) (by rw [hg214_1, singZ_o z (by omega) (by omega) (by omega) (by omega) (by omega) (by omega)]; exact h5m)) [0, 1] 0 8 rfl rfl (by decide) rfl (fun _ => rfl) (by decide) (by decide) rfl hl.1 rfl (Nat.le_of_ble_eq_true rfl) dX8_beat_215 ⟨Nat.zero_le _, Nat.zero_le _⟩ (fun _ H locs hw hP hD hS => ?_)
      have hP : va_P D vwCl [(h, .inr (8, [.ref h1, .ref h2, .ref h3, .int gst, .ref h4, .ref h5, .ref h6, .int gty, .int 0, .int (if (¬ skipZ g214_1 ∧ fullZ g214_1) then 1 else (0 : Int32)), .int gsp, .ref h7, .ref h8, .int gtl])), (h1, .inl (cI, 190, .inl (stepZ g214_1)))] H := hP
      have hD : va_D A [(h, .inr (8, [.ref h1, .ref h2, .ref h3, .int gst, .ref h4, .ref h5, .ref h6, .int gty, .int 0, .int (if (¬ skipZ g214_1 ∧ fullZ g214_1) then 1 else (0 : Int32)), .int gsp, .ref h7, .ref h8, .int gtl])), (h1, .inl (cI, 190, .inl (stepZ g214_1)))] := hD
      obtain ⟨g215_1, hg215_1⟩ : ∃ g, g = (stepZ g214_1) := ⟨_, rfl⟩
      rw [← hg215_1] at hP hD
      have hP : va_P D vwCl [(h, .inr (8, [.ref h1, .ref h2, .ref h3, .int gst, .ref h4, .ref h5, .ref h6, .int gty, .int 0, .int (if (¬ skipZ g214_1 ∧ fullZ g214_1) then 1 else (0 : Int32)), .int gsp, .ref h7, .ref h8, .int gtl])), (h1, .inl (cI, 190, .inl g215_1))] H := hP
      have hD : va_D A [(h, .inr (8, [.ref h1, .ref h2, .ref h3, .int gst, .ref h4, .ref h5, .ref h6, .int gty, .int 0, .int (if (¬ skipZ g214_1 ∧ fullZ g214_1) then 1 else (0 : Int32)), .int gsp, .ref h7, .ref h8, .int gtl])), (h1, .inl (cI, 190, .inl g215_1))] := hD
      refine lv_aload_n hx hb dX8_beat_218 rfl (lv_at hl 1 rfl) ?_
      refine xk_Vv (As := []) (rest := []) hx hb hml hown hts hK hN hZ hP hD hS hA mb_X8_goOn mw_3_178 mw_3_180 mw_0_12 (c_X8_goOn l D cI cZ cS h h1 h2 h3 h4 h5 h6 h7 h8 gst gty (0 : Int32) (if (¬ skipZ g214_1 ∧ fullZ g214_1) then 1 else (0 : Int32)) gsp gtl g215_1 (by rw [hg215_1, stepZ_o _ (by omega) (by omega) (by omega) (by omega) (by omega) (by omega), stepZ_o _ (by omega) (by omega) (by omega) (by omega) (by omega) (by omega), hg214_1, singZ_o z (by omega) (by omega) (by omega) (by omega) (by omega) (by omega), singZ_o z (by omega) (by omega) (by omega) (by omega) (by omega) (by omega)]; exact hi)) [0, 1] 0 8 rfl rfl (by decide) rfl (fun _ => rfl) (by decide) (by decide) rfl hl.1 rfl (Nat.le_of_ble_eq_true rfl) dX8_beat_219 ⟨Nat.zero_le _, Nat.zero_le _⟩ (fun _ H locs hw hP hD hS => ?_)
      have hP : va_P D vwCl [(h, .inr (8, [.ref h1, .ref h2, .ref h3, .int gst, .ref h4, .ref h5, .ref h6, .int gty, .int (if (¬ inFootZ g215_1 ∧ songEZ g215_1) then 1 else (0 : Int32)), .int (if (¬ skipZ g214_1 ∧ fullZ g214_1) then 1 else (0 : Int32)), .int gsp, .ref h7, .ref h8, .int gtl])), (h1, .inl (cI, 190, .inl (goOnZ g215_1)))] H := hP
      have hD : va_D A [(h, .inr (8, [.ref h1, .ref h2, .ref h3, .int gst, .ref h4, .ref h5, .ref h6, .int gty, .int (if (¬ inFootZ g215_1 ∧ songEZ g215_1) then 1 else (0 : Int32)), .int (if (¬ skipZ g214_1 ∧ fullZ g214_1) then 1 else (0 : Int32)), .int gsp, .ref h7, .ref h8, .int gtl])), (h1, .inl (cI, 190, .inl (goOnZ g215_1)))] := hD
      obtain ⟨g219_1, hg219_1⟩ : ∃ g, g = (goOnZ g215_1) := ⟨_, rfl⟩
      rw [← hg219_1] at hP hD
      have hP : va_P D vwCl [(h, .inr (8, [.ref h1, .ref h2, .ref h3, .int gst, .ref h4, .ref h5, .ref h6, .int gty, .int (if (¬ inFootZ g215_1 ∧ songEZ g215_1) then 1 else (0 : Int32)), .int (if (¬ skipZ g214_1 ∧ fullZ g214_1) then 1 else (0 : Int32)), .int gsp, .ref h7, .ref h8, .int gtl])), (h1, .inl (cI, 190, .inl g219_1))] H := hP
      have hD : va_D A [(h, .inr (8, [.ref h1, .ref h2, .ref h3, .int gst, .ref h4, .ref h5, .ref h6, .int gty, .int (if (¬ inFootZ g215_1 ∧ songEZ g215_1) then 1 else (0 : Int32)), .int (if (¬ skipZ g214_1 ∧ fullZ g214_1) then 1 else (0 : Int32)), .int gsp, .ref h7, .ref h8, .int gtl])), (h1, .inl (cI, 190, .inl g219_1))] := hD
      have hz : g219_1 = beatZ z := by rw [hg219_1, hg215_1, hg214_1, beatZ, if_neg hrz]
      have hu1 : (if (¬ skipZ g214_1 ∧ fullZ g214_1) then 1 else (0 : Int32)) = if endS z then 1 else 0 := by rw [hg214_1]; simp only [endS, hrz, not_false_eq_true, true_and]
      have hu2 : (if (¬ inFootZ g215_1 ∧ songEZ g215_1) then 1 else (0 : Int32)) = if endG z then 1 else 0 := by rw [hg215_1, hg214_1]; simp only [endG, hrz, not_false_eq_true, true_and]
      exact xk_retv () hx hb hr hlocks (xk_P hP (by rw [← hu1, ← hu2, ← hz])) (by trivial) hS dX8_beat_222 hQ
    · have t103 : 0 < (g95_1 182).toInt := xi_nle rfl (by decide) c103
      refine lv_aload_n hx hb dX8_beat_106 rfl (lv_at hl 1 rfl) ?_
      refine va_get (D := D) (ci := 8) (v := .ref h1) (C := RX8) (T := TX8) (N := 14) hx hb hts xin8 hown hK hP 0 rfl rfl 0 (by decide) (hts _ (List.mem_cons_of_mem _ mw_3_85)) (fun _ h9 => h9) rfl dX8_beat_107 ?_
      refine lv_sipush (v := 182) hx hb dX8_beat_110 (by decide) ?_
      refine lv_dup2_11 hx hb dX8_beat_113 rfl rfl ?_
      refine va_iald hx hb hK hP 1 0 rfl rfl (xi_in (by decide) (by decide)) dX8_beat_114 ?_
      refine xk_top (z := g95_1 182) rfl ?_
      refine lv_iconst (v := 1) hx hb dX8_beat_115 (by decide) ?_
      refine lv_isub hx hb dX8_beat_116 ?_
      refine lv_topi (fun x116 e116 => ?_)
      refine va_iast hx hb hK hP hD hS 1 0 rfl rfl (xi_in (by decide) (by decide)) dX8_beat_117 (fun H locs hP hD hS => ?_)
      have hP : va_P D vwCl [(h, .inr (8, [.ref h1, .ref h2, .ref h3, .int gst, .ref h4, .ref h5, .ref h6, .int gty, .int 0, .int 0, .int gsp, .ref h7, .ref h8, .int gtl])), (h1, .inl (cI, 190, .inl (upd g95_1 182 x116)))] H := hP
      have hD : va_D A [(h, .inr (8, [.ref h1, .ref h2, .ref h3, .int gst, .ref h4, .ref h5, .ref h6, .int gty, .int 0, .int 0, .int gsp, .ref h7, .ref h8, .int gtl])), (h1, .inl (cI, 190, .inl (upd g95_1 182 x116)))] := hD
      refine lv_aload_n hx hb dX8_beat_118 rfl (lv_at hl 1 rfl) ?_
      refine va_get (D := D) (ci := 8) (v := .ref h1) (C := RX8) (T := TX8) (N := 14) hx hb hts xin8 hown hK hP 0 rfl rfl 0 (by decide) (hts _ (List.mem_cons_of_mem _ mw_3_85)) (fun _ h9 => h9) rfl dX8_beat_119 ?_
      refine lv_sipush (v := 181) hx hb dX8_beat_122 (by decide) ?_
      refine lv_aload_n hx hb dX8_beat_125 rfl (lv_at hl 1 rfl) ?_
      refine va_get (D := D) (ci := 8) (v := .ref h1) (C := RX8) (T := TX8) (N := 14) hx hb hts xin8 hown hK hP 0 rfl rfl 0 (by decide) (hts _ (List.mem_cons_of_mem _ mw_3_85)) (fun _ h9 => h9) rfl dX8_beat_126 ?_
      refine lv_sipush (v := 181) hx hb dX8_beat_129 (by decide) ?_
      refine va_iald hx hb hK hP 1 0 rfl rfl (xi_in (by decide) (by decide)) dX8_beat_132 ?_
      refine xk_top (z := g95_1 181) rfl ?_
      refine lv_aload_n hx hb dX8_beat_133 rfl (lv_at hl 1 rfl) ?_
      refine va_get (D := D) (ci := 8) (v := .ref h1) (C := RX8) (T := TX8) (N := 14) hx hb hts xin8 hown hK hP 0 rfl rfl 0 (by decide) (hts _ (List.mem_cons_of_mem _ mw_3_85)) (fun _ h9 => h9) rfl dX8_beat_134 ?_
      refine lv_iconst (v := 3) hx hb dX8_beat_137 (by decide) ?_
      refine va_iald hx hb hK hP 1 0 rfl rfl (xi_in (by decide) (by decide)) dX8_beat_138 ?_
      refine xk_top (z := g95_1 3) rfl ?_
      refine lv_iadd hx hb dX8_beat_139 ?_
      refine lv_topi (fun x139 e139 => ?_)
      refine lv_aload_n hx hb dX8_beat_140 rfl (lv_at hl 1 rfl) ?_
      refine va_get (D := D) (ci := 8) (v := .ref h1) (C := RX8) (T := TX8) (N := 14) hx hb hts xin8 hown hK hP 0 rfl rfl 0 (by decide) (hts _ (List.mem_cons_of_mem _ mw_3_85)) (fun _ h9 => h9) rfl dX8_beat_141 ?_
      refine lv_iconst (v := 4) hx hb dX8_beat_144 (by decide) ?_
      refine va_iald hx hb hK hP 1 0 rfl rfl (xi_in (by decide) (by decide)) dX8_beat_145 ?_
      refine xk_top (z := g95_1 4) rfl ?_
      refine lv_icmp_ge (tgt := 167) hx hb dX8_beat_146 (by decide) (fun c146 => ?_) (fun c146 => ?_)
      · have t146 : (g95_1 4).toInt ≤ x139.toInt := xi_le rfl rfl c146
        refine lv_aload_n hx hb dX8_beat_167 rfl (lv_at hl 1 rfl) ?_
        refine va_get (D := D) (ci := 8) (v := .ref h1) (C := RX8) (T := TX8) (N := 14) hx hb hts xin8 hown hK hP 0 rfl rfl 0 (by decide) (hts _ (List.mem_cons_of_mem _ mw_3_85)) (fun _ h9 => h9) rfl dX8_beat_168 ?_
        refine lv_iconst (v := 4) hx hb dX8_beat_171 (by decide) ?_
        refine va_iald hx hb hK hP 1 0 rfl rfl (xi_in (by decide) (by decide)) dX8_beat_172 ?_
        refine xk_top (z := g95_1 4) rfl ?_
        refine va_iast hx hb hK hP hD hS 1 0 rfl rfl (xi_in (by decide) (by decide)) dX8_beat_173 (fun H locs hP hD hS => ?_)
        have hP : va_P D vwCl [(h, .inr (8, [.ref h1, .ref h2, .ref h3, .int gst, .ref h4, .ref h5, .ref h6, .int gty, .int 0, .int 0, .int gsp, .ref h7, .ref h8, .int gtl])), (h1, .inl (cI, 190, .inl (upd (upd g95_1 182 x116) 181 (g95_1 4))))] H := hP
        have hD : va_D A [(h, .inr (8, [.ref h1, .ref h2, .ref h3, .int gst, .ref h4, .ref h5, .ref h6, .int gty, .int 0, .int 0, .int gsp, .ref h7, .ref h8, .int gtl])), (h1, .inl (cI, 190, .inl (upd (upd g95_1 182 x116) 181 (g95_1 4))))] := hD
        have hrz : restZ z := by show 0 < (preZ z 182).toInt; rw [← hg95_1]; exact t103
        have hz : (upd (upd g95_1 182 x116) 181 (g95_1 4)) = beatZ z := by rw [beatZ, if_pos hrz, restsZ, ← hg95_1]; subst e139 e116; rw [if_neg (Int.not_lt.mpr t146)]
        have hu1 : (0 : Int32) = if endS z then 1 else 0 := by rw [if_neg (fun hh => hh.1 hrz)]
        have hu2 : (0 : Int32) = if endG z then 1 else 0 := by rw [if_neg (fun hh => hh.1 hrz)]
        exact xk_retv () hx hb hr hlocks (xk_P hP (by rw [← hu1, ← hu2, ← hz])) (by trivial) hS dX8_beat_174 hQ
      · have t146 : x139.toInt < (g95_1 4).toInt := xi_nle rfl rfl c146
        refine lv_aload_n hx hb dX8_beat_149 rfl (lv_at hl 1 rfl) ?_
        refine va_get (D := D) (ci := 8) (v := .ref h1) (C := RX8) (T := TX8) (N := 14) hx hb hts xin8 hown hK hP 0 rfl rfl 0 (by decide) (hts _ (List.mem_cons_of_mem _ mw_3_85)) (fun _ h9 => h9) rfl dX8_beat_150 ?_
        refine lv_sipush (v := 181) hx hb dX8_beat_153 (by decide) ?_
        refine va_iald hx hb hK hP 1 0 rfl rfl (xi_in (by decide) (by decide)) dX8_beat_156 ?_
        refine xk_top (z := g95_1 181) rfl ?_
        refine lv_aload_n hx hb dX8_beat_157 rfl (lv_at hl 1 rfl) ?_
        refine va_get (D := D) (ci := 8) (v := .ref h1) (C := RX8) (T := TX8) (N := 14) hx hb hts xin8 hown hK hP 0 rfl rfl 0 (by decide) (hts _ (List.mem_cons_of_mem _ mw_3_85)) (fun _ h9 => h9) rfl dX8_beat_158 ?_
        refine lv_iconst (v := 3) hx hb dX8_beat_161 (by decide) ?_
        refine va_iald hx hb hK hP 1 0 rfl rfl (xi_in (by decide) (by decide)) dX8_beat_162 ?_
        refine xk_top (z := g95_1 3) rfl ?_
        refine lv_iadd hx hb dX8_beat_163 ?_
        refine lv_topi (fun x163 e163 => ?_)
        refine lv_goto (tgt := 173) hx hb dX8_beat_164 (by decide) ?_
        refine va_iast hx hb hK hP hD hS 1 0 rfl rfl (xi_in (by decide) (by decide)) dX8_beat_173 (fun H locs hP hD hS => ?_)
        have hP : va_P D vwCl [(h, .inr (8, [.ref h1, .ref h2, .ref h3, .int gst, .ref h4, .ref h5, .ref h6, .int gty, .int 0, .int 0, .int gsp, .ref h7, .ref h8, .int gtl])), (h1, .inl (cI, 190, .inl (upd (upd g95_1 182 x116) 181 x163)))] H := hP
        have hD : va_D A [(h, .inr (8, [.ref h1, .ref h2, .ref h3, .int gst, .ref h4, .ref h5, .ref h6, .int gty, .int 0, .int 0, .int gsp, .ref h7, .ref h8, .int gtl])), (h1, .inl (cI, 190, .inl (upd (upd g95_1 182 x116) 181 x163)))] := hD
        have hrz : restZ z := by show 0 < (preZ z 182).toInt; rw [← hg95_1]; exact t103
        have hz : (upd (upd g95_1 182 x116) 181 x163) = beatZ z := by rw [beatZ, if_pos hrz, restsZ, ← hg95_1]; subst e163 e139 e116; rw [if_pos t146]
        have hu1 : (0 : Int32) = if endS z then 1 else 0 := by rw [if_neg (fun hh => hh.1 hrz)]
        have hu2 : (0 : Int32) = if endG z then 1 else 0 := by rw [if_neg (fun hh => hh.1 hrz)]
        exact xk_retv () hx hb hr hlocks (xk_P hP (by rw [← hu1, ← hu2, ← hz])) (by trivial) hS dX8_beat_174 hQ
  · have t37 : (z 182).toInt = 0 := xi_eq rfl (by decide) c37
    have d37 : (z 182) = 0 := c37
    refine lv_aload_n hx hb dX8_beat_40 rfl (lv_at hl 1 rfl) ?_
    refine va_get (D := D) (ci := 8) (v := .ref h1) (C := RX8) (T := TX8) (N := 14) hx hb hts xin8 hown hK hP 0 rfl rfl 0 (by decide) (hts _ (List.mem_cons_of_mem _ mw_3_85)) (fun _ h9 => h9) rfl dX8_beat_41 ?_
    refine lv_sipush (v := 181) hx hb dX8_beat_44 (by decide) ?_
    refine va_iald hx hb hK hP 1 0 rfl rfl (xi_in (by decide) (by decide)) dX8_beat_47 ?_
    refine xk_top (z := z 181) rfl ?_
    refine lv_iload_n hx hb dX8_beat_48 rfl (lv_at hl 0 rfl) ?_
    refine lv_icmp_ge (tgt := 78) hx hb dX8_beat_49 (by decide) (fun c49 => ?_) (fun c49 => ?_)
    · have t49 : x5.toInt ≤ (z 181).toInt := xi_le rfl rfl c49
      refine lv_aload_n hx hb dX8_beat_78 rfl (lv_at hl 1 rfl) ?_
      refine va_get (D := D) (ci := 8) (v := .ref h1) (C := RX8) (T := TX8) (N := 14) hx hb hts xin8 hown hK hP 0 rfl rfl 0 (by decide) (hts _ (List.mem_cons_of_mem _ mw_3_85)) (fun _ h9 => h9) rfl dX8_beat_79 ?_
      refine lv_sipush (v := 175) hx hb dX8_beat_82 (by decide) ?_
      refine lv_dup2_11 hx hb dX8_beat_85 rfl rfl ?_
      refine va_iald hx hb hK hP 1 0 rfl rfl (xi_in (by decide) (by decide)) dX8_beat_86 ?_
      refine xk_top (z := z 175) rfl ?_
      refine lv_aload_n hx hb dX8_beat_87 rfl (lv_at hl 1 rfl) ?_
      refine va_get (D := D) (ci := 8) (v := .ref h1) (C := RX8) (T := TX8) (N := 14) hx hb hts xin8 hown hK hP 0 rfl rfl 0 (by decide) (hts _ (List.mem_cons_of_mem _ mw_3_85)) (fun _ h9 => h9) rfl dX8_beat_88 ?_
      refine lv_iconst (v := 0) hx hb dX8_beat_91 (by decide) ?_
      refine va_iald hx hb hK hP 1 0 rfl rfl (xi_in (by decide) (by decide)) dX8_beat_92 ?_
      refine xk_top (z := z 0) rfl ?_
      refine lv_iadd hx hb dX8_beat_93 ?_
      refine lv_topi (fun x93 e93 => ?_)
      refine va_iast hx hb hK hP hD hS 1 0 rfl rfl (xi_in (by decide) (by decide)) dX8_beat_94 (fun H locs hP hD hS => ?_)
      have hP : va_P D vwCl [(h, .inr (8, [.ref h1, .ref h2, .ref h3, .int gst, .ref h4, .ref h5, .ref h6, .int gty, .int 0, .int 0, .int gsp, .ref h7, .ref h8, .int gtl])), (h1, .inl (cI, 190, .inl (upd (upd z 174 x27) 175 x93)))] H := hP
      have hD : va_D A [(h, .inr (8, [.ref h1, .ref h2, .ref h3, .int gst, .ref h4, .ref h5, .ref h6, .int gty, .int 0, .int 0, .int gsp, .ref h7, .ref h8, .int gtl])), (h1, .inl (cI, 190, .inl (upd (upd z 174 x27) 175 x93)))] := hD
      have hg : ¬ gaspZ z := by subst e93 e27 e5 e2; exact fun hh => absurd hh.2 (Int.not_lt.mpr t49)
      have f95 : (upd (upd z 174 x27) 175 x93) = preZ z := by subst e93 e27 e5 e2; rw [preZ, if_neg hg]
      rw [f95] at hP hD
      have hP : va_P D vwCl [(h, .inr (8, [.ref h1, .ref h2, .ref h3, .int gst, .ref h4, .ref h5, .ref h6, .int gty, .int 0, .int 0, .int gsp, .ref h7, .ref h8, .int gtl])), (h1, .inl (cI, 190, .inl (preZ z)))] H := hP
      have hD : va_D A [(h, .inr (8, [.ref h1, .ref h2, .ref h3, .int gst, .ref h4, .ref h5, .ref h6, .int gty, .int 0, .int 0, .int gsp, .ref h7, .ref h8, .int gtl])), (h1, .inl (cI, 190, .inl (preZ z)))] := hD
      obtain ⟨g95_1, hg95_1⟩ : ∃ g, g = (preZ z) := ⟨_, rfl⟩
      rw [← hg95_1] at hP hD
      have hP : va_P D vwCl [(h, .inr (8, [.ref h1, .ref h2, .ref h3, .int gst, .ref h4, .ref h5, .ref h6, .int gty, .int 0, .int 0, .int gsp, .ref h7, .ref h8, .int gtl])), (h1, .inl (cI, 190, .inl g95_1))] H := hP
      have hD : va_D A [(h, .inr (8, [.ref h1, .ref h2, .ref h3, .int gst, .ref h4, .ref h5, .ref h6, .int gty, .int 0, .int 0, .int gsp, .ref h7, .ref h8, .int gtl])), (h1, .inl (cI, 190, .inl g95_1))] := hD
      refine lv_aload_n hx hb dX8_beat_95 rfl (lv_at hl 1 rfl) ?_
      refine va_get (D := D) (ci := 8) (v := .ref h1) (C := RX8) (T := TX8) (N := 14) hx hb hts xin8 hown hK hP 0 rfl rfl 0 (by decide) (hts _ (List.mem_cons_of_mem _ mw_3_85)) (fun _ h9 => h9) rfl dX8_beat_96 ?_
      refine lv_sipush (v := 182) hx hb dX8_beat_99 (by decide) ?_
      refine va_iald hx hb hK hP 1 0 rfl rfl (xi_in (by decide) (by decide)) dX8_beat_102 ?_
      refine xk_top (z := g95_1 182) rfl ?_
      refine lv_if_le (tgt := 175) hx hb dX8_beat_103 (by decide) (fun c103 => ?_) (fun c103 => ?_)
      · have t103 : (g95_1 182).toInt ≤ 0 := xi_le rfl (by decide) c103
        refine lv_aload_n hx hb dX8_beat_175 rfl (lv_at hl 1 rfl) ?_
        refine va_get (D := D) (ci := 8) (v := .ref h1) (C := RX8) (T := TX8) (N := 14) hx hb hts xin8 hown hK hP 0 rfl rfl 0 (by decide) (hts _ (List.mem_cons_of_mem _ mw_3_85)) (fun _ h9 => h9) rfl dX8_beat_176 ?_
        refine lv_sipush (v := 181) hx hb dX8_beat_179 (by decide) ?_
        refine lv_dup2_11 hx hb dX8_beat_182 rfl rfl ?_
        refine va_iald hx hb hK hP 1 0 rfl rfl (xi_in (by decide) (by decide)) dX8_beat_183 ?_
        refine xk_top (z := g95_1 181) rfl ?_
        refine lv_iload_n hx hb dX8_beat_184 rfl (lv_at hl 0 rfl) ?_
        refine lv_isub hx hb dX8_beat_185 ?_
        refine lv_topi (fun x185 e185 => ?_)
        refine va_iast hx hb hK hP hD hS 1 0 rfl rfl (xi_in (by decide) (by decide)) dX8_beat_186 (fun H locs hP hD hS => ?_)
        have hP : va_P D vwCl [(h, .inr (8, [.ref h1, .ref h2, .ref h3, .int gst, .ref h4, .ref h5, .ref h6, .int gty, .int 0, .int 0, .int gsp, .ref h7, .ref h8, .int gtl])), (h1, .inl (cI, 190, .inl (upd g95_1 181 x185)))] H := hP
        have hD : va_D A [(h, .inr (8, [.ref h1, .ref h2, .ref h3, .int gst, .ref h4, .ref h5, .ref h6, .int gty, .int 0, .int 0, .int gsp, .ref h7, .ref h8, .int gtl])), (h1, .inl (cI, 190, .inl (upd g95_1 181 x185)))] := hD
        refine lv_aload_n hx hb dX8_beat_187 rfl (lv_at hl 1 rfl) ?_
        refine va_get (D := D) (ci := 8) (v := .ref h1) (C := RX8) (T := TX8) (N := 14) hx hb hts xin8 hown hK hP 0 rfl rfl 0 (by decide) (hts _ (List.mem_cons_of_mem _ mw_3_85)) (fun _ h9 => h9) rfl dX8_beat_188 ?_
        refine lv_sipush (v := 175) hx hb dX8_beat_191 (by decide) ?_
        refine lv_dup2_11 hx hb dX8_beat_194 rfl rfl ?_
        refine va_iald hx hb hK hP 1 0 rfl rfl (xi_in (by decide) (by decide)) dX8_beat_195 ?_
        refine xk_top (z := g95_1 175) rfl ?_
        refine lv_aload_n hx hb dX8_beat_196 rfl (lv_at hl 1 rfl) ?_
        refine xk_Vi (As := []) (rest := [.int (g95_1 175), .int 175, .ref h1]) hx hb hml hown hts hK hN hZ hP hD hS hA mb_X8_climb mw_3_166 mw_3_168 mw_0_9 (c_X8_climb l D cI cZ cS h h1 h2 h3 h4 h5 h6 h7 h8 gst gty (0 : Int32) (0 : Int32) gsp gtl (upd g95_1 181 x185) (by unfold atZ; rw [upd_n _ _ _ (by omega), hg95_1, preZ_o z (by omega) (by omega) (by omega) (by omega)]; exact ha0)) [0, 1] 0 8 rfl rfl (by decide) rfl (fun _ => rfl) (by decide) (by decide) rfl hl.1 rfl (Nat.le_of_ble_eq_true rfl) dX8_beat_197 ⟨Nat.zero_le _, Nat.zero_le _⟩ (fun r197 _ H locs hw hP hD hS => ?_)
        have hP : va_P D vwCl [(h, .inr (8, [.ref h1, .ref h2, .ref h3, .int gst, .ref h4, .ref h5, .ref h6, .int gty, .int 0, .int 0, .int gsp, .ref h7, .ref h8, .int gtl])), (h1, .inl (cI, 190, .inl (upd g95_1 181 x185)))] H := hP
        have hD : va_D A [(h, .inr (8, [.ref h1, .ref h2, .ref h3, .int gst, .ref h4, .ref h5, .ref h6, .int gty, .int 0, .int 0, .int gsp, .ref h7, .ref h8, .int gtl])), (h1, .inl (cI, 190, .inl (upd g95_1 181 x185)))] := hD
        have e197 : r197 = climbZ (upd g95_1 181 x185) := hw
        have e197 : r197 = climbZ z := by rw [e197, climbZ_upd _ (by unfold atZ; rw [hg95_1, preZ_o z (by omega) (by omega) (by omega) (by omega)]; exact ha0) _ (by omega) (by omega), hg95_1, climbZ_pre z ha0]
        refine lv_iadd hx hb dX8_beat_200 ?_
        refine lv_topi (fun x200 e200 => ?_)
        refine va_iast hx hb hK hP hD hS 1 0 rfl rfl (xi_in (by decide) (by decide)) dX8_beat_201 (fun H locs hP hD hS => ?_)
        have hP : va_P D vwCl [(h, .inr (8, [.ref h1, .ref h2, .ref h3, .int gst, .ref h4, .ref h5, .ref h6, .int gty, .int 0, .int 0, .int gsp, .ref h7, .ref h8, .int gtl])), (h1, .inl (cI, 190, .inl (upd (upd g95_1 181 x185) 175 x200)))] H := hP
        have hD : va_D A [(h, .inr (8, [.ref h1, .ref h2, .ref h3, .int gst, .ref h4, .ref h5, .ref h6, .int gty, .int 0, .int 0, .int gsp, .ref h7, .ref h8, .int gtl])), (h1, .inl (cI, 190, .inl (upd (upd g95_1 181 x185) 175 x200)))] := hD
        refine lv_aload_n hx hb dX8_beat_202 rfl (lv_at hl 1 rfl) ?_
        refine va_get (D := D) (ci := 8) (v := .ref h1) (C := RX8) (T := TX8) (N := 14) hx hb hts xin8 hown hK hP 0 rfl rfl 0 (by decide) (hts _ (List.mem_cons_of_mem _ mw_3_85)) (fun _ h9 => h9) rfl dX8_beat_203 ?_
        refine lv_sipush (v := 187) hx hb dX8_beat_206 (by decide) ?_
        refine lv_dup2_11 hx hb dX8_beat_209 rfl rfl ?_
        refine va_iald hx hb hK hP 1 0 rfl rfl (xi_in (by decide) (by decide)) dX8_beat_210 ?_
        refine xk_top (z := g95_1 187) rfl ?_
        refine lv_iconst (v := 1) hx hb dX8_beat_211 (by decide) ?_
        refine lv_iadd hx hb dX8_beat_212 ?_
        refine lv_topi (fun x212 e212 => ?_)
        refine va_iast hx hb hK hP hD hS 1 0 rfl rfl (xi_in (by decide) (by decide)) dX8_beat_213 (fun H locs hP hD hS => ?_)
        have hP : va_P D vwCl [(h, .inr (8, [.ref h1, .ref h2, .ref h3, .int gst, .ref h4, .ref h5, .ref h6, .int gty, .int 0, .int 0, .int gsp, .ref h7, .ref h8, .int gtl])), (h1, .inl (cI, 190, .inl (upd (upd (upd g95_1 181 x185) 175 x200) 187 x212)))] H := hP
        have hD : va_D A [(h, .inr (8, [.ref h1, .ref h2, .ref h3, .int gst, .ref h4, .ref h5, .ref h6, .int gty, .int 0, .int 0, .int gsp, .ref h7, .ref h8, .int gtl])), (h1, .inl (cI, 190, .inl (upd (upd (upd g95_1 181 x185) 175 x200) 187 x212)))] := hD
        have f214 : (upd (upd (upd g95_1 181 x185) 175 x200) 187 x212) = singZ z := by subst e212 e200 e197 e185; subst e5; subst e2; rw [singZ, ← hg95_1]; rfl
        rw [f214] at hP hD
        have hP : va_P D vwCl [(h, .inr (8, [.ref h1, .ref h2, .ref h3, .int gst, .ref h4, .ref h5, .ref h6, .int gty, .int 0, .int 0, .int gsp, .ref h7, .ref h8, .int gtl])), (h1, .inl (cI, 190, .inl (singZ z)))] H := hP
        have hD : va_D A [(h, .inr (8, [.ref h1, .ref h2, .ref h3, .int gst, .ref h4, .ref h5, .ref h6, .int gty, .int 0, .int 0, .int gsp, .ref h7, .ref h8, .int gtl])), (h1, .inl (cI, 190, .inl (singZ z)))] := hD
        obtain ⟨g214_1, hg214_1⟩ : ∃ g, g = (singZ z) := ⟨_, rfl⟩
        rw [← hg214_1] at hP hD
        have hP : va_P D vwCl [(h, .inr (8, [.ref h1, .ref h2, .ref h3, .int gst, .ref h4, .ref h5, .ref h6, .int gty, .int 0, .int 0, .int gsp, .ref h7, .ref h8, .int gtl])), (h1, .inl (cI, 190, .inl g214_1))] H := hP
        have hD : va_D A [(h, .inr (8, [.ref h1, .ref h2, .ref h3, .int gst, .ref h4, .ref h5, .ref h6, .int gty, .int 0, .int 0, .int gsp, .ref h7, .ref h8, .int gtl])), (h1, .inl (cI, 190, .inl g214_1))] := hD
        have hrz : ¬ restZ z := by show ¬ 0 < (preZ z 182).toInt; rw [← hg95_1]; exact Int.not_lt.mpr t103
        have hsa : atZ g214_1 := by rw [hg214_1]; unfold atZ; rw [singZ_o z (by omega) (by omega) (by omega) (by omega) (by omega) (by omega)]; exact ha0
        refine lv_aload_n hx hb dX8_beat_214 rfl (lv_at hl 1 rfl) ?_
        refine xk_Vv (As := []) (rest := []) hx hb hml hown hts hK hN hZ hP hD hS hA mb_X8_step mw_3_174 mw_3_176 mw_0_11 (c_X8_step l D cI cZ cS h h1 h2 h3 h4 h5 h6 h7 h8 gst gty (0 : Int32) (0 : Int32) gsp gtl g214_1 (by exact hsa) (by rw [hg214_1, singZ_o z (by omega) (by omega) (by omega) (by omega) (by omega) (by omega)]; exact h5m)) [0, 1] 0 8 rfl rfl (by decide) rfl (fun _ => rfl) (by decide) (by decide) rfl hl.1 rfl (Nat.le_of_ble_eq_true rfl) dX8_beat_215 ⟨Nat.zero_le _, Nat.zero_le _⟩ (fun _ H locs hw hP hD hS => ?_)
        have hP : va_P D vwCl [(h, .inr (8, [.ref h1, .ref h2, .ref h3, .int gst, .ref h4, .ref h5, .ref h6, .int gty, .int 0, .int (if (¬ skipZ g214_1 ∧ fullZ g214_1) then 1 else (0 : Int32)), .int gsp, .ref h7, .ref h8, .int gtl])), (h1, .inl (cI, 190, .inl (stepZ g214_1)))] H := hP
        have hD : va_D A [(h, .inr (8, [.ref h1, .ref h2, .ref h3, .int gst, .ref h4, .ref h5, .ref h6, .int gty, .int 0, .int (if (¬ skipZ g214_1 ∧ fullZ g214_1) then 1 else (0 : Int32)), .int gsp, .ref h7, .ref h8, .int gtl])), (h1, .inl (cI, 190, .inl (stepZ g214_1)))] := hD
        obtain ⟨g215_1, hg215_1⟩ : ∃ g, g = (stepZ g214_1) := ⟨_, rfl⟩
        rw [← hg215_1] at hP hD
        have hP : va_P D vwCl [(h, .inr (8, [.ref h1, .ref h2, .ref h3, .int gst, .ref h4, .ref h5, .ref h6, .int gty, .int 0, .int (if (¬ skipZ g214_1 ∧ fullZ g214_1) then 1 else (0 : Int32)), .int gsp, .ref h7, .ref h8, .int gtl])), (h1, .inl (cI, 190, .inl g215_1))] H := hP
        have hD : va_D A [(h, .inr (8, [.ref h1, .ref h2, .ref h3, .int gst, .ref h4, .ref h5, .ref h6, .int gty, .int 0, .int (if (¬ skipZ g214_1 ∧ fullZ g214_1) then 1 else (0 : Int32)), .int gsp, .ref h7, .ref h8, .int gtl])), (h1, .inl (cI, 190, .inl g215_1))] := hD
        refine lv_aload_n hx hb dX8_beat_218 rfl (lv_at hl 1 rfl) ?_
        refine xk_Vv (As := []) (rest := []) hx hb hml hown hts hK hN hZ hP hD hS hA mb_X8_goOn mw_3_178 mw_3_180 mw_0_12 (c_X8_goOn l D cI cZ cS h h1 h2 h3 h4 h5 h6 h7 h8 gst gty (0 : Int32) (if (¬ skipZ g214_1 ∧ fullZ g214_1) then 1 else (0 : Int32)) gsp gtl g215_1 (by rw [hg215_1, stepZ_o _ (by omega) (by omega) (by omega) (by omega) (by omega) (by omega), stepZ_o _ (by omega) (by omega) (by omega) (by omega) (by omega) (by omega), hg214_1, singZ_o z (by omega) (by omega) (by omega) (by omega) (by omega) (by omega), singZ_o z (by omega) (by omega) (by omega) (by omega) (by omega) (by omega)]; exact hi)) [0, 1] 0 8 rfl rfl (by decide) rfl (fun _ => rfl) (by decide) (by decide) rfl hl.1 rfl (Nat.le_of_ble_eq_true rfl) dX8_beat_219 ⟨Nat.zero_le _, Nat.zero_le _⟩ (fun _ H locs hw hP hD hS => ?_)
        have hP : va_P D vwCl [(h, .inr (8, [.ref h1, .ref h2, .ref h3, .int gst, .ref h4, .ref h5, .ref h6, .int gty, .int (if (¬ inFootZ g215_1 ∧ songEZ g215_1) then 1 else (0 : Int32)), .int (if (¬ skipZ g214_1 ∧ fullZ g214_1) then 1 else (0 : Int32)), .int gsp, .ref h7, .ref h8, .int gtl])), (h1, .inl (cI, 190, .inl (goOnZ g215_1)))] H := hP
        have hD : va_D A [(h, .inr (8, [.ref h1, .ref h2, .ref h3, .int gst, .ref h4, .ref h5, .ref h6, .int gty, .int (if (¬ inFootZ g215_1 ∧ songEZ g215_1) then 1 else (0 : Int32)), .int (if (¬ skipZ g214_1 ∧ fullZ g214_1) then 1 else (0 : Int32)), .int gsp, .ref h7, .ref h8, .int gtl])), (h1, .inl (cI, 190, .inl (goOnZ g215_1)))] := hD
        obtain ⟨g219_1, hg219_1⟩ : ∃ g, g = (goOnZ g215_1) := ⟨_, rfl⟩
        rw [← hg219_1] at hP hD
        have hP : va_P D vwCl [(h, .inr (8, [.ref h1, .ref h2, .ref h3, .int gst, .ref h4, .ref h5, .ref h6, .int gty, .int (if (¬ inFootZ g215_1 ∧ songEZ g215_1) then 1 else (0 : Int32)), .int (if (¬ skipZ g214_1 ∧ fullZ g214_1) then 1 else (0 : Int32)), .int gsp, .ref h7, .ref h8, .int gtl])), (h1, .inl (cI, 190, .inl g219_1))] H := hP
        have hD : va_D A [(h, .inr (8, [.ref h1, .ref h2, .ref h3, .int gst, .ref h4, .ref h5, .ref h6, .int gty, .int (if (¬ inFootZ g215_1 ∧ songEZ g215_1) then 1 else (0 : Int32)), .int (if (¬ skipZ g214_1 ∧ fullZ g214_1) then 1 else (0 : Int32)), .int gsp, .ref h7, .ref h8, .int gtl])), (h1, .inl (cI, 190, .inl g219_1))] := hD
        have hz : g219_1 = beatZ z := by rw [hg219_1, hg215_1, hg214_1, beatZ, if_neg hrz]
        have hu1 : (if (¬ skipZ g214_1 ∧ fullZ g214_1) then 1 else (0 : Int32)) = if endS z then 1 else 0 := by rw [hg214_1]; simp only [endS, hrz, not_false_eq_true, true_and]
        have hu2 : (if (¬ inFootZ g215_1 ∧ songEZ g215_1) then 1 else (0 : Int32)) = if endG z then 1 else 0 := by rw [hg215_1, hg214_1]; simp only [endG, hrz, not_false_eq_true, true_and]
        exact xk_retv () hx hb hr hlocks (xk_P hP (by rw [← hu1, ← hu2, ← hz])) (by trivial) hS dX8_beat_222 hQ
      · have t103 : 0 < (g95_1 182).toInt := xi_nle rfl (by decide) c103
        refine lv_aload_n hx hb dX8_beat_106 rfl (lv_at hl 1 rfl) ?_
        refine va_get (D := D) (ci := 8) (v := .ref h1) (C := RX8) (T := TX8) (N := 14) hx hb hts xin8 hown hK hP 0 rfl rfl 0 (by decide) (hts _ (List.mem_cons_of_mem _ mw_3_85)) (fun _ h9 => h9) rfl dX8_beat_107 ?_
        refine lv_sipush (v := 182) hx hb dX8_beat_110 (by decide) ?_
        refine lv_dup2_11 hx hb dX8_beat_113 rfl rfl ?_
        refine va_iald hx hb hK hP 1 0 rfl rfl (xi_in (by decide) (by decide)) dX8_beat_114 ?_
        refine xk_top (z := g95_1 182) rfl ?_
        refine lv_iconst (v := 1) hx hb dX8_beat_115 (by decide) ?_
        refine lv_isub hx hb dX8_beat_116 ?_
        refine lv_topi (fun x116 e116 => ?_)
        refine va_iast hx hb hK hP hD hS 1 0 rfl rfl (xi_in (by decide) (by decide)) dX8_beat_117 (fun H locs hP hD hS => ?_)
        have hP : va_P D vwCl [(h, .inr (8, [.ref h1, .ref h2, .ref h3, .int gst, .ref h4, .ref h5, .ref h6, .int gty, .int 0, .int 0, .int gsp, .ref h7, .ref h8, .int gtl])), (h1, .inl (cI, 190, .inl (upd g95_1 182 x116)))] H := hP
        have hD : va_D A [(h, .inr (8, [.ref h1, .ref h2, .ref h3, .int gst, .ref h4, .ref h5, .ref h6, .int gty, .int 0, .int 0, .int gsp, .ref h7, .ref h8, .int gtl])), (h1, .inl (cI, 190, .inl (upd g95_1 182 x116)))] := hD
        refine lv_aload_n hx hb dX8_beat_118 rfl (lv_at hl 1 rfl) ?_
        refine va_get (D := D) (ci := 8) (v := .ref h1) (C := RX8) (T := TX8) (N := 14) hx hb hts xin8 hown hK hP 0 rfl rfl 0 (by decide) (hts _ (List.mem_cons_of_mem _ mw_3_85)) (fun _ h9 => h9) rfl dX8_beat_119 ?_
        refine lv_sipush (v := 181) hx hb dX8_beat_122 (by decide) ?_
        refine lv_aload_n hx hb dX8_beat_125 rfl (lv_at hl 1 rfl) ?_
        refine va_get (D := D) (ci := 8) (v := .ref h1) (C := RX8) (T := TX8) (N := 14) hx hb hts xin8 hown hK hP 0 rfl rfl 0 (by decide) (hts _ (List.mem_cons_of_mem _ mw_3_85)) (fun _ h9 => h9) rfl dX8_beat_126 ?_
        refine lv_sipush (v := 181) hx hb dX8_beat_129 (by decide) ?_
        refine va_iald hx hb hK hP 1 0 rfl rfl (xi_in (by decide) (by decide)) dX8_beat_132 ?_
        refine xk_top (z := g95_1 181) rfl ?_
        refine lv_aload_n hx hb dX8_beat_133 rfl (lv_at hl 1 rfl) ?_
        refine va_get (D := D) (ci := 8) (v := .ref h1) (C := RX8) (T := TX8) (N := 14) hx hb hts xin8 hown hK hP 0 rfl rfl 0 (by decide) (hts _ (List.mem_cons_of_mem _ mw_3_85)) (fun _ h9 => h9) rfl dX8_beat_134 ?_
        refine lv_iconst (v := 3) hx hb dX8_beat_137 (by decide) ?_
        refine va_iald hx hb hK hP 1 0 rfl rfl (xi_in (by decide) (by decide)) dX8_beat_138 ?_
        refine xk_top (z := g95_1 3) rfl ?_
        refine lv_iadd hx hb dX8_beat_139 ?_
        refine lv_topi (fun x139 e139 => ?_)
        refine lv_aload_n hx hb dX8_beat_140 rfl (lv_at hl 1 rfl) ?_
        refine va_get (D := D) (ci := 8) (v := .ref h1) (C := RX8) (T := TX8) (N := 14) hx hb hts xin8 hown hK hP 0 rfl rfl 0 (by decide) (hts _ (List.mem_cons_of_mem _ mw_3_85)) (fun _ h9 => h9) rfl dX8_beat_141 ?_
        refine lv_iconst (v := 4) hx hb dX8_beat_144 (by decide) ?_
        refine va_iald hx hb hK hP 1 0 rfl rfl (xi_in (by decide) (by decide)) dX8_beat_145 ?_
        refine xk_top (z := g95_1 4) rfl ?_
        refine lv_icmp_ge (tgt := 167) hx hb dX8_beat_146 (by decide) (fun c146 => ?_) (fun c146 => ?_)
        · have t146 : (g95_1 4).toInt ≤ x139.toInt := xi_le rfl rfl c146
          refine lv_aload_n hx hb dX8_beat_167 rfl (lv_at hl 1 rfl) ?_
          refine va_get (D := D) (ci := 8) (v := .ref h1) (C := RX8) (T := TX8) (N := 14) hx hb hts xin8 hown hK hP 0 rfl rfl 0 (by decide) (hts _ (List.mem_cons_of_mem _ mw_3_85)) (fun _ h9 => h9) rfl dX8_beat_168 ?_
          refine lv_iconst (v := 4) hx hb dX8_beat_171 (by decide) ?_
          refine va_iald hx hb hK hP 1 0 rfl rfl (xi_in (by decide) (by decide)) dX8_beat_172 ?_
          refine xk_top (z := g95_1 4) rfl ?_
          refine va_iast hx hb hK hP hD hS 1 0 rfl rfl (xi_in (by decide) (by decide)) dX8_beat_173 (fun H locs hP hD hS => ?_)
          have hP : va_P D vwCl [(h, .inr (8, [.ref h1, .ref h2, .ref h3, .int gst, .ref h4, .ref h5, .ref h6, .int gty, .int 0, .int 0, .int gsp, .ref h7, .ref h8, .int gtl])), (h1, .inl (cI, 190, .inl (upd (upd g95_1 182 x116) 181 (g95_1 4))))] H := hP
          have hD : va_D A [(h, .inr (8, [.ref h1, .ref h2, .ref h3, .int gst, .ref h4, .ref h5, .ref h6, .int gty, .int 0, .int 0, .int gsp, .ref h7, .ref h8, .int gtl])), (h1, .inl (cI, 190, .inl (upd (upd g95_1 182 x116) 181 (g95_1 4))))] := hD
          have hrz : restZ z := by show 0 < (preZ z 182).toInt; rw [← hg95_1]; exact t103
          have hz : (upd (upd g95_1 182 x116) 181 (g95_1 4)) = beatZ z := by rw [beatZ, if_pos hrz, restsZ, ← hg95_1]; subst e139 e116; rw [if_neg (Int.not_lt.mpr t146)]
          have hu1 : (0 : Int32) = if endS z then 1 else 0 := by rw [if_neg (fun hh => hh.1 hrz)]
          have hu2 : (0 : Int32) = if endG z then 1 else 0 := by rw [if_neg (fun hh => hh.1 hrz)]
          exact xk_retv () hx hb hr hlocks (xk_P hP (by rw [← hu1, ← hu2, ← hz])) (by trivial) hS dX8_beat_174 hQ
        · have t146 : x139.toInt < (g95_1 4).toInt := xi_nle rfl rfl c146
          refine lv_aload_n hx hb dX8_beat_149 rfl (lv_at hl 1 rfl) ?_
          refine va_get (D := D) (ci := 8) (v := .ref h1) (C := RX8) (T := TX8) (N := 14) hx hb hts xin8 hown hK hP 0 rfl rfl 0 (by decide) (hts _ (List.mem_cons_of_mem _ mw_3_85)) (fun _ h9 => h9) rfl dX8_beat_150 ?_
          refine lv_sipush (v := 181) hx hb dX8_beat_153 (by decide) ?_
          refine va_iald hx hb hK hP 1 0 rfl rfl (xi_in (by decide) (by decide)) dX8_beat_156 ?_
          refine xk_top (z := g95_1 181) rfl ?_
          refine lv_aload_n hx hb dX8_beat_157 rfl (lv_at hl 1 rfl) ?_
          refine va_get (D := D) (ci := 8) (v := .ref h1) (C := RX8) (T := TX8) (N := 14) hx hb hts xin8 hown hK hP 0 rfl rfl 0 (by decide) (hts _ (List.mem_cons_of_mem _ mw_3_85)) (fun _ h9 => h9) rfl dX8_beat_158 ?_
          refine lv_iconst (v := 3) hx hb dX8_beat_161 (by decide) ?_
          refine va_iald hx hb hK hP 1 0 rfl rfl (xi_in (by decide) (by decide)) dX8_beat_162 ?_
          refine xk_top (z := g95_1 3) rfl ?_
          refine lv_iadd hx hb dX8_beat_163 ?_
          refine lv_topi (fun x163 e163 => ?_)
          refine lv_goto (tgt := 173) hx hb dX8_beat_164 (by decide) ?_
          refine va_iast hx hb hK hP hD hS 1 0 rfl rfl (xi_in (by decide) (by decide)) dX8_beat_173 (fun H locs hP hD hS => ?_)
          have hP : va_P D vwCl [(h, .inr (8, [.ref h1, .ref h2, .ref h3, .int gst, .ref h4, .ref h5, .ref h6, .int gty, .int 0, .int 0, .int gsp, .ref h7, .ref h8, .int gtl])), (h1, .inl (cI, 190, .inl (upd (upd g95_1 182 x116) 181 x163)))] H := hP
          have hD : va_D A [(h, .inr (8, [.ref h1, .ref h2, .ref h3, .int gst, .ref h4, .ref h5, .ref h6, .int gty, .int 0, .int 0, .int gsp, .ref h7, .ref h8, .int gtl])), (h1, .inl (cI, 190, .inl (upd (upd g95_1 182 x116) 181 x163)))] := hD
          have hrz : restZ z := by show 0 < (preZ z 182).toInt; rw [← hg95_1]; exact t103
          have hz : (upd (upd g95_1 182 x116) 181 x163) = beatZ z := by rw [beatZ, if_pos hrz, restsZ, ← hg95_1]; subst e163 e139 e116; rw [if_pos t146]
          have hu1 : (0 : Int32) = if endS z then 1 else 0 := by rw [if_neg (fun hh => hh.1 hrz)]
          have hu2 : (0 : Int32) = if endG z then 1 else 0 := by rw [if_neg (fun hh => hh.1 hrz)]
          exact xk_retv () hx hb hr hlocks (xk_P hP (by rw [← hu1, ← hu2, ← hz])) (by trivial) hS dX8_beat_174 hQ
    · have t49 : (z 181).toInt < x5.toInt := xi_nle rfl rfl c49
      refine lv_aload_n hx hb dX8_beat_52 rfl (lv_at hl 1 rfl) ?_
      refine va_get (D := D) (ci := 8) (v := .ref h1) (C := RX8) (T := TX8) (N := 14) hx hb hts xin8 hown hK hP 0 rfl rfl 0 (by decide) (hts _ (List.mem_cons_of_mem _ mw_3_85)) (fun _ h9 => h9) rfl dX8_beat_53 ?_
      refine lv_sipush (v := 185) hx hb dX8_beat_56 (by decide) ?_
      refine lv_dup2_11 hx hb dX8_beat_59 rfl rfl ?_
      refine va_iald hx hb hK hP 1 0 rfl rfl (xi_in (by decide) (by decide)) dX8_beat_60 ?_
      refine xk_top (z := z 185) rfl ?_
      refine lv_iconst (v := 1) hx hb dX8_beat_61 (by decide) ?_
      refine lv_iadd hx hb dX8_beat_62 ?_
      refine lv_topi (fun x62 e62 => ?_)
      refine va_iast hx hb hK hP hD hS 1 0 rfl rfl (xi_in (by decide) (by decide)) dX8_beat_63 (fun H locs hP hD hS => ?_)
      have hP : va_P D vwCl [(h, .inr (8, [.ref h1, .ref h2, .ref h3, .int gst, .ref h4, .ref h5, .ref h6, .int gty, .int 0, .int 0, .int gsp, .ref h7, .ref h8, .int gtl])), (h1, .inl (cI, 190, .inl (upd (upd z 174 x27) 185 x62)))] H := hP
      have hD : va_D A [(h, .inr (8, [.ref h1, .ref h2, .ref h3, .int gst, .ref h4, .ref h5, .ref h6, .int gty, .int 0, .int 0, .int gsp, .ref h7, .ref h8, .int gtl])), (h1, .inl (cI, 190, .inl (upd (upd z 174 x27) 185 x62)))] := hD
      refine lv_aload_n hx hb dX8_beat_64 rfl (lv_at hl 1 rfl) ?_
      refine va_get (D := D) (ci := 8) (v := .ref h1) (C := RX8) (T := TX8) (N := 14) hx hb hts xin8 hown hK hP 0 rfl rfl 0 (by decide) (hts _ (List.mem_cons_of_mem _ mw_3_85)) (fun _ h9 => h9) rfl dX8_beat_65 ?_
      refine lv_sipush (v := 182) hx hb dX8_beat_68 (by decide) ?_
      refine lv_aload_n hx hb dX8_beat_71 rfl (lv_at hl 1 rfl) ?_
      refine va_get (D := D) (ci := 8) (v := .ref h1) (C := RX8) (T := TX8) (N := 14) hx hb hts xin8 hown hK hP 0 rfl rfl 0 (by decide) (hts _ (List.mem_cons_of_mem _ mw_3_85)) (fun _ h9 => h9) rfl dX8_beat_72 ?_
      refine lv_iconst (v := 2) hx hb dX8_beat_75 (by decide) ?_
      refine va_iald hx hb hK hP 1 0 rfl rfl (xi_in (by decide) (by decide)) dX8_beat_76 ?_
      refine xk_top (z := z 2) rfl ?_
      refine va_iast hx hb hK hP hD hS 1 0 rfl rfl (xi_in (by decide) (by decide)) dX8_beat_77 (fun H locs hP hD hS => ?_)
      have hP : va_P D vwCl [(h, .inr (8, [.ref h1, .ref h2, .ref h3, .int gst, .ref h4, .ref h5, .ref h6, .int gty, .int 0, .int 0, .int gsp, .ref h7, .ref h8, .int gtl])), (h1, .inl (cI, 190, .inl (upd (upd (upd z 174 x27) 185 x62) 182 (z 2))))] H := hP
      have hD : va_D A [(h, .inr (8, [.ref h1, .ref h2, .ref h3, .int gst, .ref h4, .ref h5, .ref h6, .int gty, .int 0, .int 0, .int gsp, .ref h7, .ref h8, .int gtl])), (h1, .inl (cI, 190, .inl (upd (upd (upd z 174 x27) 185 x62) 182 (z 2))))] := hD
      refine lv_aload_n hx hb dX8_beat_78 rfl (lv_at hl 1 rfl) ?_
      refine va_get (D := D) (ci := 8) (v := .ref h1) (C := RX8) (T := TX8) (N := 14) hx hb hts xin8 hown hK hP 0 rfl rfl 0 (by decide) (hts _ (List.mem_cons_of_mem _ mw_3_85)) (fun _ h9 => h9) rfl dX8_beat_79 ?_
      refine lv_sipush (v := 175) hx hb dX8_beat_82 (by decide) ?_
      refine lv_dup2_11 hx hb dX8_beat_85 rfl rfl ?_
      refine va_iald hx hb hK hP 1 0 rfl rfl (xi_in (by decide) (by decide)) dX8_beat_86 ?_
      refine xk_top (z := z 175) rfl ?_
      refine lv_aload_n hx hb dX8_beat_87 rfl (lv_at hl 1 rfl) ?_
      refine va_get (D := D) (ci := 8) (v := .ref h1) (C := RX8) (T := TX8) (N := 14) hx hb hts xin8 hown hK hP 0 rfl rfl 0 (by decide) (hts _ (List.mem_cons_of_mem _ mw_3_85)) (fun _ h9 => h9) rfl dX8_beat_88 ?_
      refine lv_iconst (v := 0) hx hb dX8_beat_91 (by decide) ?_
      refine va_iald hx hb hK hP 1 0 rfl rfl (xi_in (by decide) (by decide)) dX8_beat_92 ?_
      refine xk_top (z := z 0) rfl ?_
      refine lv_iadd hx hb dX8_beat_93 ?_
      refine lv_topi (fun x93 e93 => ?_)
      refine va_iast hx hb hK hP hD hS 1 0 rfl rfl (xi_in (by decide) (by decide)) dX8_beat_94 (fun H locs hP hD hS => ?_)
      have hP : va_P D vwCl [(h, .inr (8, [.ref h1, .ref h2, .ref h3, .int gst, .ref h4, .ref h5, .ref h6, .int gty, .int 0, .int 0, .int gsp, .ref h7, .ref h8, .int gtl])), (h1, .inl (cI, 190, .inl (upd (upd (upd (upd z 174 x27) 185 x62) 182 (z 2)) 175 x93)))] H := hP
      have hD : va_D A [(h, .inr (8, [.ref h1, .ref h2, .ref h3, .int gst, .ref h4, .ref h5, .ref h6, .int gty, .int 0, .int 0, .int gsp, .ref h7, .ref h8, .int gtl])), (h1, .inl (cI, 190, .inl (upd (upd (upd (upd z 174 x27) 185 x62) 182 (z 2)) 175 x93)))] := hD
      have hg : gaspZ z := by subst e93 e62 e27 e5 e2; exact ⟨d37, t49⟩
      have f95 : (upd (upd (upd (upd z 174 x27) 185 x62) 182 (z 2)) 175 x93) = preZ z := by subst e93 e62 e27 e5 e2; rw [preZ, if_pos hg]
      rw [f95] at hP hD
      have hP : va_P D vwCl [(h, .inr (8, [.ref h1, .ref h2, .ref h3, .int gst, .ref h4, .ref h5, .ref h6, .int gty, .int 0, .int 0, .int gsp, .ref h7, .ref h8, .int gtl])), (h1, .inl (cI, 190, .inl (preZ z)))] H := hP
      have hD : va_D A [(h, .inr (8, [.ref h1, .ref h2, .ref h3, .int gst, .ref h4, .ref h5, .ref h6, .int gty, .int 0, .int 0, .int gsp, .ref h7, .ref h8, .int gtl])), (h1, .inl (cI, 190, .inl (preZ z)))] := hD
      obtain ⟨g95_1, hg95_1⟩ : ∃ g, g = (preZ z) := ⟨_, rfl⟩
      rw [← hg95_1] at hP hD
      have hP : va_P D vwCl [(h, .inr (8, [.ref h1, .ref h2, .ref h3, .int gst, .ref h4, .ref h5, .ref h6, .int gty, .int 0, .int 0, .int gsp, .ref h7, .ref h8, .int gtl])), (h1, .inl (cI, 190, .inl g95_1))] H := hP
      have hD : va_D A [(h, .inr (8, [.ref h1, .ref h2, .ref h3, .int gst, .ref h4, .ref h5, .ref h6, .int gty, .int 0, .int 0, .int gsp, .ref h7, .ref h8, .int gtl])), (h1, .inl (cI, 190, .inl g95_1))] := hD
      refine lv_aload_n hx hb dX8_beat_95 rfl (lv_at hl 1 rfl) ?_
      refine va_get (D := D) (ci := 8) (v := .ref h1) (C := RX8) (T := TX8) (N := 14) hx hb hts xin8 hown hK hP 0 rfl rfl 0 (by decide) (hts _ (List.mem_cons_of_mem _ mw_3_85)) (fun _ h9 => h9) rfl dX8_beat_96 ?_
      refine lv_sipush (v := 182) hx hb dX8_beat_99 (by decide) ?_
      refine va_iald hx hb hK hP 1 0 rfl rfl (xi_in (by decide) (by decide)) dX8_beat_102 ?_
      refine xk_top (z := g95_1 182) rfl ?_
      refine lv_if_le (tgt := 175) hx hb dX8_beat_103 (by decide) (fun c103 => ?_) (fun c103 => ?_)
      · have t103 : (g95_1 182).toInt ≤ 0 := xi_le rfl (by decide) c103
        refine lv_aload_n hx hb dX8_beat_175 rfl (lv_at hl 1 rfl) ?_
        refine va_get (D := D) (ci := 8) (v := .ref h1) (C := RX8) (T := TX8) (N := 14) hx hb hts xin8 hown hK hP 0 rfl rfl 0 (by decide) (hts _ (List.mem_cons_of_mem _ mw_3_85)) (fun _ h9 => h9) rfl dX8_beat_176 ?_
        refine lv_sipush (v := 181) hx hb dX8_beat_179 (by decide) ?_
        refine lv_dup2_11 hx hb dX8_beat_182 rfl rfl ?_
        refine va_iald hx hb hK hP 1 0 rfl rfl (xi_in (by decide) (by decide)) dX8_beat_183 ?_
        refine xk_top (z := g95_1 181) rfl ?_
        refine lv_iload_n hx hb dX8_beat_184 rfl (lv_at hl 0 rfl) ?_
        refine lv_isub hx hb dX8_beat_185 ?_
        refine lv_topi (fun x185 e185 => ?_)
        refine va_iast hx hb hK hP hD hS 1 0 rfl rfl (xi_in (by decide) (by decide)) dX8_beat_186 (fun H locs hP hD hS => ?_)
        have hP : va_P D vwCl [(h, .inr (8, [.ref h1, .ref h2, .ref h3, .int gst, .ref h4, .ref h5, .ref h6, .int gty, .int 0, .int 0, .int gsp, .ref h7, .ref h8, .int gtl])), (h1, .inl (cI, 190, .inl (upd g95_1 181 x185)))] H := hP
        have hD : va_D A [(h, .inr (8, [.ref h1, .ref h2, .ref h3, .int gst, .ref h4, .ref h5, .ref h6, .int gty, .int 0, .int 0, .int gsp, .ref h7, .ref h8, .int gtl])), (h1, .inl (cI, 190, .inl (upd g95_1 181 x185)))] := hD
        refine lv_aload_n hx hb dX8_beat_187 rfl (lv_at hl 1 rfl) ?_
        refine va_get (D := D) (ci := 8) (v := .ref h1) (C := RX8) (T := TX8) (N := 14) hx hb hts xin8 hown hK hP 0 rfl rfl 0 (by decide) (hts _ (List.mem_cons_of_mem _ mw_3_85)) (fun _ h9 => h9) rfl dX8_beat_188 ?_
        refine lv_sipush (v := 175) hx hb dX8_beat_191 (by decide) ?_
        refine lv_dup2_11 hx hb dX8_beat_194 rfl rfl ?_
        refine va_iald hx hb hK hP 1 0 rfl rfl (xi_in (by decide) (by decide)) dX8_beat_195 ?_
        refine xk_top (z := g95_1 175) rfl ?_
        refine lv_aload_n hx hb dX8_beat_196 rfl (lv_at hl 1 rfl) ?_
        refine xk_Vi (As := []) (rest := [.int (g95_1 175), .int 175, .ref h1]) hx hb hml hown hts hK hN hZ hP hD hS hA mb_X8_climb mw_3_166 mw_3_168 mw_0_9 (c_X8_climb l D cI cZ cS h h1 h2 h3 h4 h5 h6 h7 h8 gst gty (0 : Int32) (0 : Int32) gsp gtl (upd g95_1 181 x185) (by unfold atZ; rw [upd_n _ _ _ (by omega), hg95_1, preZ_o z (by omega) (by omega) (by omega) (by omega)]; exact ha0)) [0, 1] 0 8 rfl rfl (by decide) rfl (fun _ => rfl) (by decide) (by decide) rfl hl.1 rfl (Nat.le_of_ble_eq_true rfl) dX8_beat_197 ⟨Nat.zero_le _, Nat.zero_le _⟩ (fun r197 _ H locs hw hP hD hS => ?_)
        have hP : va_P D vwCl [(h, .inr (8, [.ref h1, .ref h2, .ref h3, .int gst, .ref h4, .ref h5, .ref h6, .int gty, .int 0, .int 0, .int gsp, .ref h7, .ref h8, .int gtl])), (h1, .inl (cI, 190, .inl (upd g95_1 181 x185)))] H := hP
        have hD : va_D A [(h, .inr (8, [.ref h1, .ref h2, .ref h3, .int gst, .ref h4, .ref h5, .ref h6, .int gty, .int 0, .int 0, .int gsp, .ref h7, .ref h8, .int gtl])), (h1, .inl (cI, 190, .inl (upd g95_1 181 x185)))] := hD
        have e197 : r197 = climbZ (upd g95_1 181 x185) := hw
        have e197 : r197 = climbZ z := by rw [e197, climbZ_upd _ (by unfold atZ; rw [hg95_1, preZ_o z (by omega) (by omega) (by omega) (by omega)]; exact ha0) _ (by omega) (by omega), hg95_1, climbZ_pre z ha0]
        refine lv_iadd hx hb dX8_beat_200 ?_
        refine lv_topi (fun x200 e200 => ?_)
        refine va_iast hx hb hK hP hD hS 1 0 rfl rfl (xi_in (by decide) (by decide)) dX8_beat_201 (fun H locs hP hD hS => ?_)
        have hP : va_P D vwCl [(h, .inr (8, [.ref h1, .ref h2, .ref h3, .int gst, .ref h4, .ref h5, .ref h6, .int gty, .int 0, .int 0, .int gsp, .ref h7, .ref h8, .int gtl])), (h1, .inl (cI, 190, .inl (upd (upd g95_1 181 x185) 175 x200)))] H := hP
        have hD : va_D A [(h, .inr (8, [.ref h1, .ref h2, .ref h3, .int gst, .ref h4, .ref h5, .ref h6, .int gty, .int 0, .int 0, .int gsp, .ref h7, .ref h8, .int gtl])), (h1, .inl (cI, 190, .inl (upd (upd g95_1 181 x185) 175 x200)))] := hD
        refine lv_aload_n hx hb dX8_beat_202 rfl (lv_at hl 1 rfl) ?_
        refine va_get (D := D) (ci := 8) (v := .ref h1) (C := RX8) (T := TX8) (N := 14) hx hb hts xin8 hown hK hP 0 rfl rfl 0 (by decide) (hts _ (List.mem_cons_of_mem _ mw_3_85)) (fun _ h9 => h9) rfl dX8_beat_203 ?_
        refine lv_sipush (v := 187) hx hb dX8_beat_206 (by decide) ?_
        refine lv_dup2_11 hx hb dX8_beat_209 rfl rfl ?_
        refine va_iald hx hb hK hP 1 0 rfl rfl (xi_in (by decide) (by decide)) dX8_beat_210 ?_
        refine xk_top (z := g95_1 187) rfl ?_
        refine lv_iconst (v := 1) hx hb dX8_beat_211 (by decide) ?_
        refine lv_iadd hx hb dX8_beat_212 ?_
        refine lv_topi (fun x212 e212 => ?_)
        refine va_iast hx hb hK hP hD hS 1 0 rfl rfl (xi_in (by decide) (by decide)) dX8_beat_213 (fun H locs hP hD hS => ?_)
        have hP : va_P D vwCl [(h, .inr (8, [.ref h1, .ref h2, .ref h3, .int gst, .ref h4, .ref h5, .ref h6, .int gty, .int 0, .int 0, .int gsp, .ref h7, .ref h8, .int gtl])), (h1, .inl (cI, 190, .inl (upd (upd (upd g95_1 181 x185) 175 x200) 187 x212)))] H := hP
        have hD : va_D A [(h, .inr (8, [.ref h1, .ref h2, .ref h3, .int gst, .ref h4, .ref h5, .ref h6, .int gty, .int 0, .int 0, .int gsp, .ref h7, .ref h8, .int gtl])), (h1, .inl (cI, 190, .inl (upd (upd (upd g95_1 181 x185) 175 x200) 187 x212)))] := hD
        have f214 : (upd (upd (upd g95_1 181 x185) 175 x200) 187 x212) = singZ z := by subst e212 e200 e197 e185; subst e5; subst e2; rw [singZ, ← hg95_1]; rfl
        rw [f214] at hP hD
        have hP : va_P D vwCl [(h, .inr (8, [.ref h1, .ref h2, .ref h3, .int gst, .ref h4, .ref h5, .ref h6, .int gty, .int 0, .int 0, .int gsp, .ref h7, .ref h8, .int gtl])), (h1, .inl (cI, 190, .inl (singZ z)))] H := hP
        have hD : va_D A [(h, .inr (8, [.ref h1, .ref h2, .ref h3, .int gst, .ref h4, .ref h5, .ref h6, .int gty, .int 0, .int 0, .int gsp, .ref h7, .ref h8, .int gtl])), (h1, .inl (cI, 190, .inl (singZ z)))] := hD
        obtain ⟨g214_1, hg214_1⟩ : ∃ g, g = (singZ z) := ⟨_, rfl⟩
        rw [← hg214_1] at hP hD
        have hP : va_P D vwCl [(h, .inr (8, [.ref h1, .ref h2, .ref h3, .int gst, .ref h4, .ref h5, .ref h6, .int gty, .int 0, .int 0, .int gsp, .ref h7, .ref h8, .int gtl])), (h1, .inl (cI, 190, .inl g214_1))] H := hP
        have hD : va_D A [(h, .inr (8, [.ref h1, .ref h2, .ref h3, .int gst, .ref h4, .ref h5, .ref h6, .int gty, .int 0, .int 0, .int gsp, .ref h7, .ref h8, .int gtl])), (h1, .inl (cI, 190, .inl g214_1))] := hD
        have hrz : ¬ restZ z := by show ¬ 0 < (preZ z 182).toInt; rw [← hg95_1]; exact Int.not_lt.mpr t103
        have hsa : atZ g214_1 := by rw [hg214_1]; unfold atZ; rw [singZ_o z (by omega) (by omega) (by omega) (by omega) (by omega) (by omega)]; exact ha0
        refine lv_aload_n hx hb dX8_beat_214 rfl (lv_at hl 1 rfl) ?_
        refine xk_Vv (As := []) (rest := []) hx hb hml hown hts hK hN hZ hP hD hS hA mb_X8_step mw_3_174 mw_3_176 mw_0_11 (c_X8_step l D cI cZ cS h h1 h2 h3 h4 h5 h6 h7 h8 gst gty (0 : Int32) (0 : Int32) gsp gtl g214_1 (by exact hsa) (by rw [hg214_1, singZ_o z (by omega) (by omega) (by omega) (by omega) (by omega) (by omega)]; exact h5m)) [0, 1] 0 8 rfl rfl (by decide) rfl (fun _ => rfl) (by decide) (by decide) rfl hl.1 rfl (Nat.le_of_ble_eq_true rfl) dX8_beat_215 ⟨Nat.zero_le _, Nat.zero_le _⟩ (fun _ H locs hw hP hD hS => ?_)
        have hP : va_P D vwCl [(h, .inr (8, [.ref h1, .ref h2, .ref h3, .int gst, .ref h4, .ref h5, .ref h6, .int gty, .int 0, .int (if (¬ skipZ g214_1 ∧ fullZ g214_1) then 1 else (0 : Int32)), .int gsp, .ref h7, .ref h8, .int gtl])), (h1, .inl (cI, 190, .inl (stepZ g214_1)))] H := hP
        have hD : va_D A [(h, .inr (8, [.ref h1, .ref h2, .ref h3, .int gst, .ref h4, .ref h5, .ref h6, .int gty, .int 0, .int (if (¬ skipZ g214_1 ∧ fullZ g214_1) then 1 else (0 : Int32)), .int gsp, .ref h7, .ref h8, .int gtl])), (h1, .inl (cI, 190, .inl (stepZ g214_1)))] := hD
        obtain ⟨g215_1, hg215_1⟩ : ∃ g, g = (stepZ g214_1) := ⟨_, rfl⟩
        rw [← hg215_1] at hP hD
        have hP : va_P D vwCl [(h, .inr (8, [.ref h1, .ref h2, .ref h3, .int gst, .ref h4, .ref h5, .ref h6, .int gty, .int 0, .int (if (¬ skipZ g214_1 ∧ fullZ g214_1) then 1 else (0 : Int32)), .int gsp, .ref h7, .ref h8, .int gtl])), (h1, .inl (cI, 190, .inl g215_1))] H := hP
        have hD : va_D A [(h, .inr (8, [.ref h1, .ref h2, .ref h3, .int gst, .ref h4, .ref h5, .ref h6, .int gty, .int 0, .int (if (¬ skipZ g214_1 ∧ fullZ g214_1) then 1 else (0 : Int32)), .int gsp, .ref h7, .ref h8, .int gtl])), (h1, .inl (cI, 190, .inl g215_1))] := hD
        refine lv_aload_n hx hb dX8_beat_218 rfl (lv_at hl 1 rfl) ?_
        refine xk_Vv (As := []) (rest := []) hx hb hml hown hts hK hN hZ hP hD hS hA mb_X8_goOn mw_3_178 mw_3_180 mw_0_12 (c_X8_goOn l D cI cZ cS h h1 h2 h3 h4 h5 h6 h7 h8 gst gty (0 : Int32) (if (¬ skipZ g214_1 ∧ fullZ g214_1) then 1 else (0 : Int32)) gsp gtl g215_1 (by rw [hg215_1, stepZ_o _ (by omega) (by omega) (by omega) (by omega) (by omega) (by omega), stepZ_o _ (by omega) (by omega) (by omega) (by omega) (by omega) (by omega), hg214_1, singZ_o z (by omega) (by omega) (by omega) (by omega) (by omega) (by omega), singZ_o z (by omega) (by omega) (by omega) (by omega) (by omega) (by omega)]; exact hi)) [0, 1] 0 8 rfl rfl (by decide) rfl (fun _ => rfl) (by decide) (by decide) rfl hl.1 rfl (Nat.le_of_ble_eq_true rfl) dX8_beat_219 ⟨Nat.zero_le _, Nat.zero_le _⟩ (fun _ H locs hw hP hD hS => ?_)
        have hP : va_P D vwCl [(h, .inr (8, [.ref h1, .ref h2, .ref h3, .int gst, .ref h4, .ref h5, .ref h6, .int gty, .int (if (¬ inFootZ g215_1 ∧ songEZ g215_1) then 1 else (0 : Int32)), .int (if (¬ skipZ g214_1 ∧ fullZ g214_1) then 1 else (0 : Int32)), .int gsp, .ref h7, .ref h8, .int gtl])), (h1, .inl (cI, 190, .inl (goOnZ g215_1)))] H := hP
        have hD : va_D A [(h, .inr (8, [.ref h1, .ref h2, .ref h3, .int gst, .ref h4, .ref h5, .ref h6, .int gty, .int (if (¬ inFootZ g215_1 ∧ songEZ g215_1) then 1 else (0 : Int32)), .int (if (¬ skipZ g214_1 ∧ fullZ g214_1) then 1 else (0 : Int32)), .int gsp, .ref h7, .ref h8, .int gtl])), (h1, .inl (cI, 190, .inl (goOnZ g215_1)))] := hD
        obtain ⟨g219_1, hg219_1⟩ : ∃ g, g = (goOnZ g215_1) := ⟨_, rfl⟩
        rw [← hg219_1] at hP hD
        have hP : va_P D vwCl [(h, .inr (8, [.ref h1, .ref h2, .ref h3, .int gst, .ref h4, .ref h5, .ref h6, .int gty, .int (if (¬ inFootZ g215_1 ∧ songEZ g215_1) then 1 else (0 : Int32)), .int (if (¬ skipZ g214_1 ∧ fullZ g214_1) then 1 else (0 : Int32)), .int gsp, .ref h7, .ref h8, .int gtl])), (h1, .inl (cI, 190, .inl g219_1))] H := hP
        have hD : va_D A [(h, .inr (8, [.ref h1, .ref h2, .ref h3, .int gst, .ref h4, .ref h5, .ref h6, .int gty, .int (if (¬ inFootZ g215_1 ∧ songEZ g215_1) then 1 else (0 : Int32)), .int (if (¬ skipZ g214_1 ∧ fullZ g214_1) then 1 else (0 : Int32)), .int gsp, .ref h7, .ref h8, .int gtl])), (h1, .inl (cI, 190, .inl g219_1))] := hD
        have hz : g219_1 = beatZ z := by rw [hg219_1, hg215_1, hg214_1, beatZ, if_neg hrz]
        have hu1 : (if (¬ skipZ g214_1 ∧ fullZ g214_1) then 1 else (0 : Int32)) = if endS z then 1 else 0 := by rw [hg214_1]; simp only [endS, hrz, not_false_eq_true, true_and]
        have hu2 : (if (¬ inFootZ g215_1 ∧ songEZ g215_1) then 1 else (0 : Int32)) = if endG z then 1 else 0 := by rw [hg215_1, hg214_1]; simp only [endG, hrz, not_false_eq_true, true_and]
        exact xk_retv () hx hb hr hlocks (xk_P hP (by rw [← hu1, ← hu2, ← hz])) (by trivial) hS dX8_beat_222 hQ
      · have t103 : 0 < (g95_1 182).toInt := xi_nle rfl (by decide) c103
        refine lv_aload_n hx hb dX8_beat_106 rfl (lv_at hl 1 rfl) ?_
        refine va_get (D := D) (ci := 8) (v := .ref h1) (C := RX8) (T := TX8) (N := 14) hx hb hts xin8 hown hK hP 0 rfl rfl 0 (by decide) (hts _ (List.mem_cons_of_mem _ mw_3_85)) (fun _ h9 => h9) rfl dX8_beat_107 ?_
        refine lv_sipush (v := 182) hx hb dX8_beat_110 (by decide) ?_
        refine lv_dup2_11 hx hb dX8_beat_113 rfl rfl ?_
        refine va_iald hx hb hK hP 1 0 rfl rfl (xi_in (by decide) (by decide)) dX8_beat_114 ?_
        refine xk_top (z := g95_1 182) rfl ?_
        refine lv_iconst (v := 1) hx hb dX8_beat_115 (by decide) ?_
        refine lv_isub hx hb dX8_beat_116 ?_
        refine lv_topi (fun x116 e116 => ?_)
        refine va_iast hx hb hK hP hD hS 1 0 rfl rfl (xi_in (by decide) (by decide)) dX8_beat_117 (fun H locs hP hD hS => ?_)
        have hP : va_P D vwCl [(h, .inr (8, [.ref h1, .ref h2, .ref h3, .int gst, .ref h4, .ref h5, .ref h6, .int gty, .int 0, .int 0, .int gsp, .ref h7, .ref h8, .int gtl])), (h1, .inl (cI, 190, .inl (upd g95_1 182 x116)))] H := hP
        have hD : va_D A [(h, .inr (8, [.ref h1, .ref h2, .ref h3, .int gst, .ref h4, .ref h5, .ref h6, .int gty, .int 0, .int 0, .int gsp, .ref h7, .ref h8, .int gtl])), (h1, .inl (cI, 190, .inl (upd g95_1 182 x116)))] := hD
        refine lv_aload_n hx hb dX8_beat_118 rfl (lv_at hl 1 rfl) ?_
        refine va_get (D := D) (ci := 8) (v := .ref h1) (C := RX8) (T := TX8) (N := 14) hx hb hts xin8 hown hK hP 0 rfl rfl 0 (by decide) (hts _ (List.mem_cons_of_mem _ mw_3_85)) (fun _ h9 => h9) rfl dX8_beat_119 ?_
        refine lv_sipush (v := 181) hx hb dX8_beat_122 (by decide) ?_
        refine lv_aload_n hx hb dX8_beat_125 rfl (lv_at hl 1 rfl) ?_
        refine va_get (D := D) (ci := 8) (v := .ref h1) (C := RX8) (T := TX8) (N := 14) hx hb hts xin8 hown hK hP 0 rfl rfl 0 (by decide) (hts _ (List.mem_cons_of_mem _ mw_3_85)) (fun _ h9 => h9) rfl dX8_beat_126 ?_
        refine lv_sipush (v := 181) hx hb dX8_beat_129 (by decide) ?_
        refine va_iald hx hb hK hP 1 0 rfl rfl (xi_in (by decide) (by decide)) dX8_beat_132 ?_
        refine xk_top (z := g95_1 181) rfl ?_
        refine lv_aload_n hx hb dX8_beat_133 rfl (lv_at hl 1 rfl) ?_
        refine va_get (D := D) (ci := 8) (v := .ref h1) (C := RX8) (T := TX8) (N := 14) hx hb hts xin8 hown hK hP 0 rfl rfl 0 (by decide) (hts _ (List.mem_cons_of_mem _ mw_3_85)) (fun _ h9 => h9) rfl dX8_beat_134 ?_
        refine lv_iconst (v := 3) hx hb dX8_beat_137 (by decide) ?_
        refine va_iald hx hb hK hP 1 0 rfl rfl (xi_in (by decide) (by decide)) dX8_beat_138 ?_
        refine xk_top (z := g95_1 3) rfl ?_
        refine lv_iadd hx hb dX8_beat_139 ?_
        refine lv_topi (fun x139 e139 => ?_)
        refine lv_aload_n hx hb dX8_beat_140 rfl (lv_at hl 1 rfl) ?_
        refine va_get (D := D) (ci := 8) (v := .ref h1) (C := RX8) (T := TX8) (N := 14) hx hb hts xin8 hown hK hP 0 rfl rfl 0 (by decide) (hts _ (List.mem_cons_of_mem _ mw_3_85)) (fun _ h9 => h9) rfl dX8_beat_141 ?_
        refine lv_iconst (v := 4) hx hb dX8_beat_144 (by decide) ?_
        refine va_iald hx hb hK hP 1 0 rfl rfl (xi_in (by decide) (by decide)) dX8_beat_145 ?_
        refine xk_top (z := g95_1 4) rfl ?_
        refine lv_icmp_ge (tgt := 167) hx hb dX8_beat_146 (by decide) (fun c146 => ?_) (fun c146 => ?_)
        · have t146 : (g95_1 4).toInt ≤ x139.toInt := xi_le rfl rfl c146
          refine lv_aload_n hx hb dX8_beat_167 rfl (lv_at hl 1 rfl) ?_
          refine va_get (D := D) (ci := 8) (v := .ref h1) (C := RX8) (T := TX8) (N := 14) hx hb hts xin8 hown hK hP 0 rfl rfl 0 (by decide) (hts _ (List.mem_cons_of_mem _ mw_3_85)) (fun _ h9 => h9) rfl dX8_beat_168 ?_
          refine lv_iconst (v := 4) hx hb dX8_beat_171 (by decide) ?_
          refine va_iald hx hb hK hP 1 0 rfl rfl (xi_in (by decide) (by decide)) dX8_beat_172 ?_
          refine xk_top (z := g95_1 4) rfl ?_
          refine va_iast hx hb hK hP hD hS 1 0 rfl rfl (xi_in (by decide) (by decide)) dX8_beat_173 (fun H locs hP hD hS => ?_)
          have hP : va_P D vwCl [(h, .inr (8, [.ref h1, .ref h2, .ref h3, .int gst, .ref h4, .ref h5, .ref h6, .int gty, .int 0, .int 0, .int gsp, .ref h7, .ref h8, .int gtl])), (h1, .inl (cI, 190, .inl (upd (upd g95_1 182 x116) 181 (g95_1 4))))] H := hP
          have hD : va_D A [(h, .inr (8, [.ref h1, .ref h2, .ref h3, .int gst, .ref h4, .ref h5, .ref h6, .int gty, .int 0, .int 0, .int gsp, .ref h7, .ref h8, .int gtl])), (h1, .inl (cI, 190, .inl (upd (upd g95_1 182 x116) 181 (g95_1 4))))] := hD
          have hrz : restZ z := by show 0 < (preZ z 182).toInt; rw [← hg95_1]; exact t103
          have hz : (upd (upd g95_1 182 x116) 181 (g95_1 4)) = beatZ z := by rw [beatZ, if_pos hrz, restsZ, ← hg95_1]; subst e139 e116; rw [if_neg (Int.not_lt.mpr t146)]
          have hu1 : (0 : Int32) = if endS z then 1 else 0 := by rw [if_neg (fun hh => hh.1 hrz)]
          have hu2 : (0 : Int32) = if endG z then 1 else 0 := by rw [if_neg (fun hh => hh.1 hrz)]
          exact xk_retv () hx hb hr hlocks (xk_P hP (by rw [← hu1, ← hu2, ← hz])) (by trivial) hS dX8_beat_174 hQ
        · have t146 : x139.toInt < (g95_1 4).toInt := xi_nle rfl rfl c146
          refine lv_aload_n hx hb dX8_beat_149 rfl (lv_at hl 1 rfl) ?_
          refine va_get (D := D) (ci := 8) (v := .ref h1) (C := RX8) (T := TX8) (N := 14) hx hb hts xin8 hown hK hP 0 rfl rfl 0 (by decide) (hts _ (List.mem_cons_of_mem _ mw_3_85)) (fun _ h9 => h9) rfl dX8_beat_150 ?_
          refine lv_sipush (v := 181) hx hb dX8_beat_153 (by decide) ?_
          refine va_iald hx hb hK hP 1 0 rfl rfl (xi_in (by decide) (by decide)) dX8_beat_156 ?_
          refine xk_top (z := g95_1 181) rfl ?_
          refine lv_aload_n hx hb dX8_beat_157 rfl (lv_at hl 1 rfl) ?_
          refine va_get (D := D) (ci := 8) (v := .ref h1) (C := RX8) (T := TX8) (N := 14) hx hb hts xin8 hown hK hP 0 rfl rfl 0 (by decide) (hts _ (List.mem_cons_of_mem _ mw_3_85)) (fun _ h9 => h9) rfl dX8_beat_158 ?_
          refine lv_iconst (v := 3) hx hb dX8_beat_161 (by decide) ?_
          refine va_iald hx hb hK hP 1 0 rfl rfl (xi_in (by decide) (by decide)) dX8_beat_162 ?_
          refine xk_top (z := g95_1 3) rfl ?_
          refine lv_iadd hx hb dX8_beat_163 ?_
          refine lv_topi (fun x163 e163 => ?_)
          refine lv_goto (tgt := 173) hx hb dX8_beat_164 (by decide) ?_
          refine va_iast hx hb hK hP hD hS 1 0 rfl rfl (xi_in (by decide) (by decide)) dX8_beat_173 (fun H locs hP hD hS => ?_)
          have hP : va_P D vwCl [(h, .inr (8, [.ref h1, .ref h2, .ref h3, .int gst, .ref h4, .ref h5, .ref h6, .int gty, .int 0, .int 0, .int gsp, .ref h7, .ref h8, .int gtl])), (h1, .inl (cI, 190, .inl (upd (upd g95_1 182 x116) 181 x163)))] H := hP
          have hD : va_D A [(h, .inr (8, [.ref h1, .ref h2, .ref h3, .int gst, .ref h4, .ref h5, .ref h6, .int gty, .int 0, .int 0, .int gsp, .ref h7, .ref h8, .int gtl])), (h1, .inl (cI, 190, .inl (upd (upd g95_1 182 x116) 181 x163)))] := hD
          have hrz : restZ z := by show 0 < (preZ z 182).toInt; rw [← hg95_1]; exact t103
          have hz : (upd (upd g95_1 182 x116) 181 x163) = beatZ z := by rw [beatZ, if_pos hrz, restsZ, ← hg95_1]; subst e163 e139 e116; rw [if_pos t146]
          have hu1 : (0 : Int32) = if endS z then 1 else 0 := by rw [if_neg (fun hh => hh.1 hrz)]
          have hu2 : (0 : Int32) = if endG z then 1 else 0 := by rw [if_neg (fun hh => hh.1 hrz)]
          exact xk_retv () hx hb hr hlocks (xk_P hP (by rw [← hu1, ← hu2, ← hz])) (by trivial) hS dX8_beat_174 hQ
end
section
set_option maxHeartbeats 4000000 in
set_option maxRecDepth 100000 in
theorem c_X8_copyState (l : Launch) (D : va_G) (cI cZ cS : ClassId) (a1 a2 N1 N2 : Nat) (f g : Nat → Int32) (p1 p3 : Int32) (h1 : 0 ≤ p1.toInt ∧ p1.toInt + 190 ≤ N1) (h3 : 0 ≤ p3.toInt ∧ p3.toInt + 190 ≤ N2) (hN : N1 < 100000 ∧ N2 < 100000) : xMv l yX8_copyState cX8_copyState 5 none ({ frames := 0, cells := 0, slots := 0, locals := 0 } : Room) D (xTy cI cZ cS) [.ref a1, .int p1, .ref a2, .int p3] [(a1, .inl (cI, N1, .inl f)), (a2, .inl (cI, N2, .inl g))] (fun (_ : Unit) => True) (fun (_ : Unit) => [(a1, .inl (cI, N1, .inl f)), (a2, .inl (cI, N2, .inl (va_cpy f g p1.toInt.toNat p3.toInt.toNat 190)))]) := by
  refine xk_bodyv (by decide) (Nat.le_of_ble_eq_true rfl) ?_
  intro p e s m below meth c A ls args Q hx hb hr hts hown hlocks hml hin hK hP hD hS hA hN hZ hl hQ
  have hl : lv_has ls 5 [(0, .ref a1), (1, .int p1), (2, .ref a2), (3, .int p3)] := hl
  refine lv_iconst (v := 0) hx hb dX8_copyState_0 (by decide) ?_
  refine lv_istore (lv' := [(4, .int 0), (0, .ref a1), (1, .int p1), (2, .ref a2), (3, .int p3)]) hx hb dX8_copyState_1 hl (by decide) rfl (fun ls hl => ?_)
  have L3 : ∀ (n : Nat) (k : Int32) (hk : 0 ≤ k.toInt ∧ k.toInt ≤ 190) (hn3 : 190 - k.toInt.toNat < n) (H : Heap) (locs : List Loc), va_P D vwCl [(a1, .inl (cI, N1, .inl f)), (a2, .inl (cI, N2, .inl (va_cpy f g p1.toInt.toNat p3.toInt.toNat k.toInt.toNat)))] H → va_D A [(a1, .inl (cI, N1, .inl f)), (a2, .inl (cI, N2, .inl (va_cpy f g p1.toInt.toNat p3.toInt.toNat k.toInt.toNat)))] → va_S A s.heap H locs → ∀ ls : Array Slot, lv_has ls 5 [(4, .int k), (0, .ref a1), (1, .int p1), (2, .ref a2), (3, .int p3)] → W p l e ({ frames := 0, cells := 0, slots := 0, locals := 0 } : Room) s m args below meth c H locs 0 0 Q (F0 m 3 ls []) := by
    intro n
    induction n with
    | zero =>
      intro k hk hn3
      exact absurd hn3 (Nat.not_lt_zero _)
    | succ n ih3 =>
      intro k hk hn3 H locs hP hD hS ls hl
      refine lv_iload hx hb dX8_copyState_3 (lv_at hl 0 rfl) ?_
      refine lv_sipush (v := 190) hx hb dX8_copyState_5 (by decide) ?_
      refine lv_icmp_ge (tgt := 29) hx hb dX8_copyState_8 (by decide) (fun c8 => ?_) (fun c8 => ?_)
      · have t8 : 190 ≤ k.toInt := xi_le (by decide) rfl c8
        exact xk_retv () hx hb hr hlocks (xk_P hP (by rw [show k.toInt.toNat = 190 from by omega])) (by trivial) hS dX8_copyState_29 hQ
      · have t8 : k.toInt < 190 := xi_nle (by decide) rfl c8
        refine lv_aload_n hx hb dX8_copyState_11 rfl (lv_at hl 3 rfl) ?_
        refine lv_iload_n hx hb dX8_copyState_12 rfl (lv_at hl 4 rfl) ?_
        refine lv_iload hx hb dX8_copyState_13 (lv_at hl 0 rfl) ?_
        refine lv_iadd hx hb dX8_copyState_15 ?_
        refine lv_topi (fun x15 e15 => ?_)
        have t15 : x15.toInt = p3.toInt + k.toInt := by rw [e15]; exact xi_add rfl rfl (by omega) (by omega)
        refine lv_aload_n hx hb dX8_copyState_16 rfl (lv_at hl 1 rfl) ?_
        refine lv_iload_n hx hb dX8_copyState_17 rfl (lv_at hl 2 rfl) ?_
        refine lv_iload hx hb dX8_copyState_18 (lv_at hl 0 rfl) ?_
        refine lv_iadd hx hb dX8_copyState_20 ?_
        refine lv_topi (fun x20 e20 => ?_)
        have t20 : x20.toInt = p1.toInt + k.toInt := by rw [e20]; exact xi_add rfl rfl (by omega) (by omega)
        refine va_iald hx hb hK hP 0 0 rfl rfl (xi_in (by omega) (by omega)) dX8_copyState_21 ?_
        refine xk_top (z := f (p1.toInt.toNat + k.toInt.toNat)) (xk_rd (by omega)) ?_
        refine lv_topi (fun x21 e21 => ?_)
        refine va_iast hx hb hK hP hD hS 1 0 rfl rfl (xi_in (by omega) (by omega)) dX8_copyState_22 (fun H locs hP hD hS => ?_)
        rw [show x15.toNatClampNeg = p3.toInt.toNat + k.toInt.toNat from xk_ix (by omega)] at hP hD
        have hP : va_P D vwCl [(a1, .inl (cI, N1, .inl f)), (a2, .inl (cI, N2, .inl (upd (va_cpy f g p1.toInt.toNat p3.toInt.toNat k.toInt.toNat) (p3.toInt.toNat + k.toInt.toNat) x21)))] H := hP
        have hD : va_D A [(a1, .inl (cI, N1, .inl f)), (a2, .inl (cI, N2, .inl (upd (va_cpy f g p1.toInt.toNat p3.toInt.toNat k.toInt.toNat) (p3.toInt.toNat + k.toInt.toNat) x21)))] := hD
        obtain ⟨x23, e23⟩ : ∃ y : Int32, y = k + 1 := ⟨_, rfl⟩
        have t23 : x23.toInt = k.toInt + 1 := by rw [e23]; exact xi_add rfl (by decide) (by omega) (by omega)
        refine lv_iinc (v := x23) (lv' := [(4, .int x23), (0, .ref a1), (1, .int p1), (2, .ref a2), (3, .int p3)]) hx hb dX8_copyState_23 hl (k := 0) rfl (by rw [e23]; rfl) (by decide) rfl (fun ls hl => ?_)
        refine lv_goto (tgt := 3) hx hb dX8_copyState_26 (by decide) ?_
        have q3 : ([(a1, .inl (cI, N1, .inl f)), (a2, .inl (cI, N2, .inl (upd (va_cpy f g p1.toInt.toNat p3.toInt.toNat k.toInt.toNat) (p3.toInt.toNat + k.toInt.toNat) x21)))] : va_W) = [(a1, .inl (cI, N1, .inl f)), (a2, .inl (cI, N2, .inl (va_cpy f g p1.toInt.toNat p3.toInt.toNat x23.toInt.toNat)))] := by rw [e21, cpy_s, show x23.toInt.toNat = k.toInt.toNat + 1 from by omega]
        exact ih3  x23 (by first | omega | assumption) (by omega) _ _ (xk_P hP q3) (xk_D hD q3) hS ls (lv_sub hl [0, 1, 2, 3, 4] rfl)
  have q3 : ([(a1, .inl (cI, N1, .inl f)), (a2, .inl (cI, N2, .inl g))] : va_W) = [(a1, .inl (cI, N1, .inl f)), (a2, .inl (cI, N2, .inl (va_cpy f g p1.toInt.toNat p3.toInt.toNat 0)))] := by rw [cpy_0]
  exact L3 191 (0 : Int32) (by decide) (by decide) _ _ (xk_P hP q3) (xk_D hD q3) hS ls (lv_sub hl [0, 1, 2, 3, 4] rfl)

set_option maxHeartbeats 4000000 in
set_option maxRecDepth 100000 in
theorem c_X8_record (l : Launch) (D : va_G) (cI cZ cS : ClassId) (h h1 h2 h3 h4 h5 h6 h7 h8 : Nat) (gst gty gse gte gsp gtl : Int32) (z past : Nat → Int32)  (hg : 0 ≤ gst.toInt ∧ gst.toInt ≤ 6) : xMv l yX8_record cX8_record 2 none ({ frames := 1, cells := 0, slots := 0, locals := 24 } : Room) D (xTy cI cZ cS) [.ref h] [(h, .inr (8, [.ref h1, .ref h2, .ref h3, .int gst, .ref h4, .ref h5, .ref h6, .int gty, .int gse, .int gte, .int gsp, .ref h7, .ref h8, .int gtl])), (h1, .inl (cI, 190, .inl z)), (h3, .inl (cI, 1140, .inl past))] (fun (_ : Unit) => True) (fun (_ : Unit) => [(h, .inr (8, [.ref h1, .ref h2, .ref h3, .int (recS gst), .ref h4, .ref h5, .ref h6, .int gty, .int gse, .int gte, .int gsp, .ref h7, .ref h8, .int gtl])), (h1, .inl (cI, 190, .inl z)), (h3, .inl (cI, 1140, .inl (recP z past gst)))]) := by
  refine xk_bodyv (by decide) (Nat.le_of_ble_eq_true rfl) ?_
  intro p e s m below meth c A ls args Q hx hb hr hts hown hlocks hml hin hK hP hD hS hA hN hZ hl hQ
  have hl : lv_has ls 2 [(0, .ref h)] := hl
  refine lv_aload_n hx hb dX8_record_0 rfl (lv_at hl 0 rfl) ?_
  refine va_get (D := D) (ci := 8) (v := .int gst) (C := RX8) (T := TX8) (N := 14) hx hb hts xin8 hown hK hP 0 rfl rfl 3 (by decide) (hts _ (List.mem_cons_of_mem _ mw_3_88)) (fun _ h9 => h9) rfl dX8_record_1 ?_
  refine lv_bipush (v := 6) hx hb dX8_record_4 (by decide) ?_
  refine lv_icmp_ne (tgt := 50) hx hb dX8_record_6 (by decide) (fun c6 => ?_) (fun c6 => ?_)
  · have t6 : ¬ gst.toInt = 6 := xi_ne rfl (by decide) c6
    have d6 : ¬ gst = 6 := c6
    refine lv_aload_n hx hb dX8_record_50 rfl (lv_at hl 0 rfl) ?_
    refine va_get (D := D) (ci := 8) (v := .ref h1) (C := RX8) (T := TX8) (N := 14) hx hb hts xin8 hown hK hP 0 rfl rfl 0 (by decide) (hts _ (List.mem_cons_of_mem _ mw_3_85)) (fun _ h9 => h9) rfl dX8_record_51 ?_
    refine lv_iconst (v := 0) hx hb dX8_record_54 (by decide) ?_
    refine lv_aload_n hx hb dX8_record_55 rfl (lv_at hl 0 rfl) ?_
    refine va_get (D := D) (ci := 8) (v := .ref h3) (C := RX8) (T := TX8) (N := 14) hx hb hts xin8 hown hK hP 0 rfl rfl 2 (by decide) (hts _ (List.mem_cons_of_mem _ mw_3_87)) (fun _ h9 => h9) rfl dX8_record_56 ?_
    refine lv_sipush (v := 190) hx hb dX8_record_59 (by decide) ?_
    refine lv_aload_n hx hb dX8_record_62 rfl (lv_at hl 0 rfl) ?_
    refine va_get (D := D) (ci := 8) (v := .int gst) (C := RX8) (T := TX8) (N := 14) hx hb hts xin8 hown hK hP 0 rfl rfl 3 (by decide) (hts _ (List.mem_cons_of_mem _ mw_3_88)) (fun _ h9 => h9) rfl dX8_record_63 ?_
    refine lv_imul hx hb dX8_record_66 ?_
    refine lv_topi (fun x66 e66 => ?_)
    have t66 : x66.toInt = 190 * gst.toInt := by rw [e66]; exact xi_mul (by decide) rfl (by omega) (by omega)
    refine xk_Sv (As := [.ref h1, .int 0, .ref h3, .int x66]) (rest := []) hx hb hml hown hts hK hN hZ hP hD hS hA mb_X8_copyState mw_3_132 mw_3_133 (c_X8_copyState l D cI cZ cS h1 h3 190 1140 z past (0 : Int32) x66 (by first | omega | decide | assumption) (by first | omega | decide | assumption) (by first | omega | decide | assumption)) [1, 2] (by decide) rfl (fun _ => rfl) (by decide) (by decide) rfl hl.1 rfl (Nat.le_of_ble_eq_true rfl) dX8_record_67 ⟨Nat.zero_le _, Nat.zero_le _⟩ (fun _ H locs hw hP hD hS => ?_)
    have hP : va_P D vwCl [(h, .inr (8, [.ref h1, .ref h2, .ref h3, .int gst, .ref h4, .ref h5, .ref h6, .int gty, .int gse, .int gte, .int gsp, .ref h7, .ref h8, .int gtl])), (h1, .inl (cI, 190, .inl z)), (h3, .inl (cI, 1140, .inl (va_cpy z past 0 x66.toInt.toNat 190)))] H := hP
    have hD : va_D A [(h, .inr (8, [.ref h1, .ref h2, .ref h3, .int gst, .ref h4, .ref h5, .ref h6, .int gty, .int gse, .int gte, .int gsp, .ref h7, .ref h8, .int gtl])), (h1, .inl (cI, 190, .inl z)), (h3, .inl (cI, 1140, .inl (va_cpy z past 0 x66.toInt.toNat 190)))] := hD
    obtain ⟨g67_2, hg67_2⟩ : ∃ g, g = (va_cpy z past 0 x66.toInt.toNat 190) := ⟨_, rfl⟩
    rw [← hg67_2] at hP hD
    have hP : va_P D vwCl [(h, .inr (8, [.ref h1, .ref h2, .ref h3, .int gst, .ref h4, .ref h5, .ref h6, .int gty, .int gse, .int gte, .int gsp, .ref h7, .ref h8, .int gtl])), (h1, .inl (cI, 190, .inl z)), (h3, .inl (cI, 1140, .inl g67_2))] H := hP
    have hD : va_D A [(h, .inr (8, [.ref h1, .ref h2, .ref h3, .int gst, .ref h4, .ref h5, .ref h6, .int gty, .int gse, .int gte, .int gsp, .ref h7, .ref h8, .int gtl])), (h1, .inl (cI, 190, .inl z)), (h3, .inl (cI, 1140, .inl g67_2))] := hD
    refine lv_aload_n hx hb dX8_record_70 rfl (lv_at hl 0 rfl) ?_
    refine lv_dup hx hb dX8_record_71 rfl ?_
    refine va_get (D := D) (ci := 8) (v := .int gst) (C := RX8) (T := TX8) (N := 14) hx hb hts xin8 hown hK hP 0 rfl rfl 3 (by decide) (hts _ (List.mem_cons_of_mem _ mw_3_88)) (fun _ h9 => h9) rfl dX8_record_72 ?_
    refine lv_iconst (v := 1) hx hb dX8_record_75 (by decide) ?_
    refine lv_iadd hx hb dX8_record_76 ?_
    refine lv_topi (fun x76 e76 => ?_)
    have t76 : x76.toInt = gst.toInt + 1 := by rw [e76]; exact xi_add rfl (by decide) (by omega) (by omega)
    refine va_put (D := D) (ci := 8) (v := .int x76) (ty := .int) (C := RX8) (T := TX8) (N := 14) hx hb hts xin8 tyX8 tyX8_ok nmX8 hown hK hP hD hS 0 rfl rfl 3 (by decide) (hts _ (List.mem_cons_of_mem _ mw_3_88)) (fun _ h9 => h9) rfl (by decide +kernel) rfl rfl (Nat.le_of_ble_eq_true rfl) dX8_record_77 (fun H locs hP hD hS => ?_)
    have hP : va_P D vwCl [(h, .inr (8, [.ref h1, .ref h2, .ref h3, .int x76, .ref h4, .ref h5, .ref h6, .int gty, .int gse, .int gte, .int gsp, .ref h7, .ref h8, .int gtl])), (h1, .inl (cI, 190, .inl z)), (h3, .inl (cI, 1140, .inl g67_2))] H := hP
    have hD : va_D A [(h, .inr (8, [.ref h1, .ref h2, .ref h3, .int x76, .ref h4, .ref h5, .ref h6, .int gty, .int gse, .int gte, .int gsp, .ref h7, .ref h8, .int gtl])), (h1, .inl (cI, 190, .inl z)), (h3, .inl (cI, 1140, .inl g67_2))] := hD
    have hz : g67_2 = recP z past gst := by rw [hg67_2, recP, if_neg d6, show x66.toInt.toNat = 190 * gst.toInt.toNat from by omega]
    have hs : x76 = recS gst := by rw [recS, if_neg d6, e76]
    exact xk_retv () hx hb hr hlocks (xk_P hP (by rw [hz, hs])) (by trivial) hS dX8_record_80 hQ
  · have t6 : gst.toInt = 6 := xi_eq rfl (by decide) c6
    have d6 : gst = 6 := c6
    refine lv_iconst (v := 0) hx hb dX8_record_9 (by decide) ?_
    refine lv_istore_n (lv' := [(1, .int 0), (0, .ref h)]) hx hb dX8_record_10 rfl hl (by decide) rfl (fun ls hl => ?_)
    have L11 : ∀ (n : Nat) (k : Int32) (hk : 0 ≤ k.toInt ∧ k.toInt ≤ 950) (hn11 : 950 - k.toInt.toNat < n) (H : Heap) (locs : List Loc), va_P D vwCl [(h, .inr (8, [.ref h1, .ref h2, .ref h3, .int gst, .ref h4, .ref h5, .ref h6, .int gty, .int gse, .int gte, .int gsp, .ref h7, .ref h8, .int gtl])), (h1, .inl (cI, 190, .inl z)), (h3, .inl (cI, 1140, .inl (shiftP past k.toInt.toNat)))] H → va_D A [(h, .inr (8, [.ref h1, .ref h2, .ref h3, .int gst, .ref h4, .ref h5, .ref h6, .int gty, .int gse, .int gte, .int gsp, .ref h7, .ref h8, .int gtl])), (h1, .inl (cI, 190, .inl z)), (h3, .inl (cI, 1140, .inl (shiftP past k.toInt.toNat)))] → va_S A s.heap H locs → ∀ ls : Array Slot, lv_has ls 2 [(1, .int k), (0, .ref h)] → W p l e ({ frames := 1, cells := 0, slots := 0, locals := 24 } : Room) s m args below meth c H locs 0 0 Q (F0 m 11 ls []) := by
      intro n
      induction n with
      | zero =>
        intro k hk hn11
        exact absurd hn11 (Nat.not_lt_zero _)
      | succ n ih11 =>
        intro k hk hn11 H locs hP hD hS ls hl
        refine lv_iload_n hx hb dX8_record_11 rfl (lv_at hl 0 rfl) ?_
        refine lv_sipush (v := 950) hx hb dX8_record_12 (by decide) ?_
        refine lv_icmp_ge (tgt := 40) hx hb dX8_record_15 (by decide) (fun c15 => ?_) (fun c15 => ?_)
        · have t15 : 950 ≤ k.toInt := xi_le (by decide) rfl c15
          have f40 : (shiftP past k.toInt.toNat) = shiftP past 950 := by rw [show k.toInt.toNat = 950 from by omega]
          rw [f40] at hP hD
          have hP : va_P D vwCl [(h, .inr (8, [.ref h1, .ref h2, .ref h3, .int gst, .ref h4, .ref h5, .ref h6, .int gty, .int gse, .int gte, .int gsp, .ref h7, .ref h8, .int gtl])), (h1, .inl (cI, 190, .inl z)), (h3, .inl (cI, 1140, .inl (shiftP past 950)))] H := hP
          have hD : va_D A [(h, .inr (8, [.ref h1, .ref h2, .ref h3, .int gst, .ref h4, .ref h5, .ref h6, .int gty, .int gse, .int gte, .int gsp, .ref h7, .ref h8, .int gtl])), (h1, .inl (cI, 190, .inl z)), (h3, .inl (cI, 1140, .inl (shiftP past 950)))] := hD
          refine lv_aload_n hx hb dX8_record_40 rfl (lv_at hl 1 rfl) ?_
          refine lv_dup hx hb dX8_record_41 rfl ?_
          refine va_get (D := D) (ci := 8) (v := .int gst) (C := RX8) (T := TX8) (N := 14) hx hb hts xin8 hown hK hP 0 rfl rfl 3 (by decide) (hts _ (List.mem_cons_of_mem _ mw_3_88)) (fun _ h9 => h9) rfl dX8_record_42 ?_
          refine lv_iconst (v := 1) hx hb dX8_record_45 (by decide) ?_
          refine lv_isub hx hb dX8_record_46 ?_
          refine lv_topi (fun x46 e46 => ?_)
          have t46 : x46.toInt = gst.toInt - 1 := by rw [e46]; exact xi_sub rfl (by decide) (by omega) (by omega)
          refine va_put (D := D) (ci := 8) (v := .int x46) (ty := .int) (C := RX8) (T := TX8) (N := 14) hx hb hts xin8 tyX8 tyX8_ok nmX8 hown hK hP hD hS 0 rfl rfl 3 (by decide) (hts _ (List.mem_cons_of_mem _ mw_3_88)) (fun _ h9 => h9) rfl (by decide +kernel) rfl rfl (Nat.le_of_ble_eq_true rfl) dX8_record_47 (fun H locs hP hD hS => ?_)
          have hP : va_P D vwCl [(h, .inr (8, [.ref h1, .ref h2, .ref h3, .int x46, .ref h4, .ref h5, .ref h6, .int gty, .int gse, .int gte, .int gsp, .ref h7, .ref h8, .int gtl])), (h1, .inl (cI, 190, .inl z)), (h3, .inl (cI, 1140, .inl (shiftP past 950)))] H := hP
          have hD : va_D A [(h, .inr (8, [.ref h1, .ref h2, .ref h3, .int x46, .ref h4, .ref h5, .ref h6, .int gty, .int gse, .int gte, .int gsp, .ref h7, .ref h8, .int gtl])), (h1, .inl (cI, 190, .inl z)), (h3, .inl (cI, 1140, .inl (shiftP past 950)))] := hD
          refine lv_aload_n hx hb dX8_record_50 rfl (lv_at hl 1 rfl) ?_
          refine va_get (D := D) (ci := 8) (v := .ref h1) (C := RX8) (T := TX8) (N := 14) hx hb hts xin8 hown hK hP 0 rfl rfl 0 (by decide) (hts _ (List.mem_cons_of_mem _ mw_3_85)) (fun _ h9 => h9) rfl dX8_record_51 ?_
          refine lv_iconst (v := 0) hx hb dX8_record_54 (by decide) ?_
          refine lv_aload_n hx hb dX8_record_55 rfl (lv_at hl 1 rfl) ?_
          refine va_get (D := D) (ci := 8) (v := .ref h3) (C := RX8) (T := TX8) (N := 14) hx hb hts xin8 hown hK hP 0 rfl rfl 2 (by decide) (hts _ (List.mem_cons_of_mem _ mw_3_87)) (fun _ h9 => h9) rfl dX8_record_56 ?_
          refine lv_sipush (v := 190) hx hb dX8_record_59 (by decide) ?_
          refine lv_aload_n hx hb dX8_record_62 rfl (lv_at hl 1 rfl) ?_
          refine va_get (D := D) (ci := 8) (v := .int x46) (C := RX8) (T := TX8) (N := 14) hx hb hts xin8 hown hK hP 0 rfl rfl 3 (by decide) (hts _ (List.mem_cons_of_mem _ mw_3_88)) (fun _ h9 => h9) rfl dX8_record_63 ?_
          refine lv_imul hx hb dX8_record_66 ?_
          refine lv_topi (fun x66 e66 => ?_)
          have t66 : x66.toInt = 190 * x46.toInt := by rw [e66]; exact xi_mul (by decide) rfl (by omega) (by omega)
          refine xk_Sv (As := [.ref h1, .int 0, .ref h3, .int x66]) (rest := []) hx hb hml hown hts hK hN hZ hP hD hS hA mb_X8_copyState mw_3_132 mw_3_133 (c_X8_copyState l D cI cZ cS h1 h3 190 1140 z (shiftP past 950) (0 : Int32) x66 (by first | omega | decide | assumption) (by first | omega | decide | assumption) (by first | omega | decide | assumption)) [1, 2] (by decide) rfl (fun _ => rfl) (by decide) (by decide) rfl hl.1 rfl (Nat.le_of_ble_eq_true rfl) dX8_record_67 ⟨Nat.zero_le _, Nat.zero_le _⟩ (fun _ H locs hw hP hD hS => ?_)
          have hP : va_P D vwCl [(h, .inr (8, [.ref h1, .ref h2, .ref h3, .int x46, .ref h4, .ref h5, .ref h6, .int gty, .int gse, .int gte, .int gsp, .ref h7, .ref h8, .int gtl])), (h1, .inl (cI, 190, .inl z)), (h3, .inl (cI, 1140, .inl (va_cpy z (shiftP past 950) 0 x66.toInt.toNat 190)))] H := hP
          have hD : va_D A [(h, .inr (8, [.ref h1, .ref h2, .ref h3, .int x46, .ref h4, .ref h5, .ref h6, .int gty, .int gse, .int gte, .int gsp, .ref h7, .ref h8, .int gtl])), (h1, .inl (cI, 190, .inl z)), (h3, .inl (cI, 1140, .inl (va_cpy z (shiftP past 950) 0 x66.toInt.toNat 190)))] := hD
          obtain ⟨g67_2, hg67_2⟩ : ∃ g, g = (va_cpy z (shiftP past 950) 0 x66.toInt.toNat 190) := ⟨_, rfl⟩
          rw [← hg67_2] at hP hD
          have hP : va_P D vwCl [(h, .inr (8, [.ref h1, .ref h2, .ref h3, .int x46, .ref h4, .ref h5, .ref h6, .int gty, .int gse, .int gte, .int gsp, .ref h7, .ref h8, .int gtl])), (h1, .inl (cI, 190, .inl z)), (h3, .inl (cI, 1140, .inl g67_2))] H := hP
          have hD : va_D A [(h, .inr (8, [.ref h1, .ref h2, .ref h3, .int x46, .ref h4, .ref h5, .ref h6, .int gty, .int gse, .int gte, .int gsp, .ref h7, .ref h8, .int gtl])), (h1, .inl (cI, 190, .inl z)), (h3, .inl (cI, 1140, .inl g67_2))] := hD
          refine lv_aload_n hx hb dX8_record_70 rfl (lv_at hl 1 rfl) ?_
          refine lv_dup hx hb dX8_record_71 rfl ?_
          refine va_get (D := D) (ci := 8) (v := .int x46) (C := RX8) (T := TX8) (N := 14) hx hb hts xin8 hown hK hP 0 rfl rfl 3 (by decide) (hts _ (List.mem_cons_of_mem _ mw_3_88)) (fun _ h9 => h9) rfl dX8_record_72 ?_
          refine lv_iconst (v := 1) hx hb dX8_record_75 (by decide) ?_
          refine lv_iadd hx hb dX8_record_76 ?_
          refine lv_topi (fun x76 e76 => ?_)
          have t76 : x76.toInt = x46.toInt + 1 := by rw [e76]; exact xi_add rfl (by decide) (by omega) (by omega)
          refine va_put (D := D) (ci := 8) (v := .int x76) (ty := .int) (C := RX8) (T := TX8) (N := 14) hx hb hts xin8 tyX8 tyX8_ok nmX8 hown hK hP hD hS 0 rfl rfl 3 (by decide) (hts _ (List.mem_cons_of_mem _ mw_3_88)) (fun _ h9 => h9) rfl (by decide +kernel) rfl rfl (Nat.le_of_ble_eq_true rfl) dX8_record_77 (fun H locs hP hD hS => ?_)
          have hP : va_P D vwCl [(h, .inr (8, [.ref h1, .ref h2, .ref h3, .int x76, .ref h4, .ref h5, .ref h6, .int gty, .int gse, .int gte, .int gsp, .ref h7, .ref h8, .int gtl])), (h1, .inl (cI, 190, .inl z)), (h3, .inl (cI, 1140, .inl g67_2))] H := hP
          have hD : va_D A [(h, .inr (8, [.ref h1, .ref h2, .ref h3, .int x76, .ref h4, .ref h5, .ref h6, .int gty, .int gse, .int gte, .int gsp, .ref h7, .ref h8, .int gtl])), (h1, .inl (cI, 190, .inl z)), (h3, .inl (cI, 1140, .inl g67_2))] := hD
          have hz : g67_2 = recP z past gst := by rw [hg67_2, recP, if_pos d6, show x66.toInt.toNat = 950 from by omega]
          have hs : x76 = recS gst := by rw [recS, if_pos d6]; exact xi_ext (by rw [show (6 : Int32).toInt = 6 from by decide]; omega)
          exact xk_retv () hx hb hr hlocks (xk_P hP (by rw [hz, hs])) (by trivial) hS dX8_record_80 hQ
        · have t15 : k.toInt < 950 := xi_nle (by decide) rfl c15
          refine lv_aload_n hx hb dX8_record_18 rfl (lv_at hl 1 rfl) ?_
          refine va_get (D := D) (ci := 8) (v := .ref h3) (C := RX8) (T := TX8) (N := 14) hx hb hts xin8 hown hK hP 0 rfl rfl 2 (by decide) (hts _ (List.mem_cons_of_mem _ mw_3_87)) (fun _ h9 => h9) rfl dX8_record_19 ?_
          refine lv_iload_n hx hb dX8_record_22 rfl (lv_at hl 0 rfl) ?_
          refine lv_aload_n hx hb dX8_record_23 rfl (lv_at hl 1 rfl) ?_
          refine va_get (D := D) (ci := 8) (v := .ref h3) (C := RX8) (T := TX8) (N := 14) hx hb hts xin8 hown hK hP 0 rfl rfl 2 (by decide) (hts _ (List.mem_cons_of_mem _ mw_3_87)) (fun _ h9 => h9) rfl dX8_record_24 ?_
          refine lv_iload_n hx hb dX8_record_27 rfl (lv_at hl 0 rfl) ?_
          refine lv_sipush (v := 190) hx hb dX8_record_28 (by decide) ?_
          refine lv_iadd hx hb dX8_record_31 ?_
          refine lv_topi (fun x31 e31 => ?_)
          have t31 : x31.toInt = k.toInt + 190 := by rw [e31]; exact xi_add rfl (by decide) (by omega) (by omega)
          refine va_iald hx hb hK hP 2 0 rfl rfl (xi_in (by omega) (by omega)) dX8_record_32 ?_
          refine xk_top (z := (shiftP past k.toInt.toNat) (k.toInt.toNat + 190)) (xk_rd (by omega)) ?_
          refine lv_topi (fun x32 e32 => ?_)
          refine va_iast hx hb hK hP hD hS 2 0 rfl rfl (xi_in (by omega) (by omega)) dX8_record_33 (fun H locs hP hD hS => ?_)
          rw [show k.toNatClampNeg = k.toInt.toNat from xk_ix (by omega)] at hP hD
          have hP : va_P D vwCl [(h, .inr (8, [.ref h1, .ref h2, .ref h3, .int gst, .ref h4, .ref h5, .ref h6, .int gty, .int gse, .int gte, .int gsp, .ref h7, .ref h8, .int gtl])), (h1, .inl (cI, 190, .inl z)), (h3, .inl (cI, 1140, .inl (upd (shiftP past k.toInt.toNat) k.toInt.toNat x32)))] H := hP
          have hD : va_D A [(h, .inr (8, [.ref h1, .ref h2, .ref h3, .int gst, .ref h4, .ref h5, .ref h6, .int gty, .int gse, .int gte, .int gsp, .ref h7, .ref h8, .int gtl])), (h1, .inl (cI, 190, .inl z)), (h3, .inl (cI, 1140, .inl (upd (shiftP past k.toInt.toNat) k.toInt.toNat x32)))] := hD
          obtain ⟨x34, e34⟩ : ∃ y : Int32, y = k + 1 := ⟨_, rfl⟩
          have t34 : x34.toInt = k.toInt + 1 := by rw [e34]; exact xi_add rfl (by decide) (by omega) (by omega)
          refine lv_iinc (v := x34) (lv' := [(1, .int x34), (0, .ref h)]) hx hb dX8_record_34 hl (k := 0) rfl (by rw [e34]; rfl) (by decide) rfl (fun ls hl => ?_)
          refine lv_goto (tgt := 11) hx hb dX8_record_37 (by decide) ?_
          have q11 : ([(h, .inr (8, [.ref h1, .ref h2, .ref h3, .int gst, .ref h4, .ref h5, .ref h6, .int gty, .int gse, .int gte, .int gsp, .ref h7, .ref h8, .int gtl])), (h1, .inl (cI, 190, .inl z)), (h3, .inl (cI, 1140, .inl (upd (shiftP past k.toInt.toNat) k.toInt.toNat x32)))] : va_W) = [(h, .inr (8, [.ref h1, .ref h2, .ref h3, .int gst, .ref h4, .ref h5, .ref h6, .int gty, .int gse, .int gte, .int gsp, .ref h7, .ref h8, .int gtl])), (h1, .inl (cI, 190, .inl z)), (h3, .inl (cI, 1140, .inl (shiftP past x34.toInt.toNat)))] := by rw [e32, shiftP_s, show x34.toInt.toNat = k.toInt.toNat + 1 from by omega]
          exact ih11  x34 (by first | omega | assumption) (by omega) _ _ (xk_P hP q11) (xk_D hD q11) hS ls (lv_sub hl [0, 1] rfl)
    have q11 : ([(h, .inr (8, [.ref h1, .ref h2, .ref h3, .int gst, .ref h4, .ref h5, .ref h6, .int gty, .int gse, .int gte, .int gsp, .ref h7, .ref h8, .int gtl])), (h1, .inl (cI, 190, .inl z)), (h3, .inl (cI, 1140, .inl past))] : va_W) = [(h, .inr (8, [.ref h1, .ref h2, .ref h3, .int gst, .ref h4, .ref h5, .ref h6, .int gty, .int gse, .int gte, .int gsp, .ref h7, .ref h8, .int gtl])), (h1, .inl (cI, 190, .inl z)), (h3, .inl (cI, 1140, .inl (shiftP past 0)))] := by rw [shiftP_0]
    exact L11 951 (0 : Int32) (by decide) (by decide) _ _ (xk_P hP q11) (xk_D hD q11) hS ls (lv_sub hl [0, 1] rfl)

set_option maxHeartbeats 4000000 in
set_option maxRecDepth 100000 in
theorem c_X8_undo (l : Launch) (D : va_G) (cI cZ cS : ClassId) (h h1 h2 h3 h4 h5 h6 h7 h8 : Nat) (gst gty gse gte gsp gtl : Int32) (z past : Nat → Int32)  (hg : 0 ≤ gst.toInt ∧ gst.toInt ≤ 6) : xMi l yX8_undo cX8_undo 1 (some .int) ({ frames := 1, cells := 0, slots := 0, locals := 24 } : Room) D (xTy cI cZ cS) [.ref h] [(h, .inr (8, [.ref h1, .ref h2, .ref h3, .int gst, .ref h4, .ref h5, .ref h6, .int gty, .int gse, .int gte, .int gsp, .ref h7, .ref h8, .int gtl])), (h1, .inl (cI, 190, .inl z)), (h3, .inl (cI, 1140, .inl past))] (fun (r : Int32) (_ : Unit) => r = undoR gst) (fun (_ : Unit) => [(h, .inr (8, [.ref h1, .ref h2, .ref h3, .int (undoS gst), .ref h4, .ref h5, .ref h6, .int gty, .int gse, .int gte, .int gsp, .ref h7, .ref h8, .int gtl])), (h1, .inl (cI, 190, .inl (undoZ gst past z))), (h3, .inl (cI, 1140, .inl past))]) := by
  refine xk_bodyi (by decide) (Nat.le_of_ble_eq_true rfl) ?_
  intro p e s m below meth c A ls args Q hx hb hr hts hown hlocks hml hin hK hP hD hS hA hN hZ hl hQ
  have hl : lv_has ls 1 [(0, .ref h)] := hl
  refine lv_aload_n hx hb dX8_undo_0 rfl (lv_at hl 0 rfl) ?_
  refine va_get (D := D) (ci := 8) (v := .int gst) (C := RX8) (T := TX8) (N := 14) hx hb hts xin8 hown hK hP 0 rfl rfl 3 (by decide) (hts _ (List.mem_cons_of_mem _ mw_3_88)) (fun _ h9 => h9) rfl dX8_undo_1 ?_
  refine lv_if_ne (tgt := 10) hx hb dX8_undo_4 (by decide) (fun c4 => ?_) (fun c4 => ?_)
  · have t4 : ¬ gst.toInt = 0 := xi_ne rfl (by decide) c4
    have d4 : ¬ gst = 0 := c4
    refine lv_aload_n hx hb dX8_undo_10 rfl (lv_at hl 0 rfl) ?_
    refine lv_dup hx hb dX8_undo_11 rfl ?_
    refine va_get (D := D) (ci := 8) (v := .int gst) (C := RX8) (T := TX8) (N := 14) hx hb hts xin8 hown hK hP 0 rfl rfl 3 (by decide) (hts _ (List.mem_cons_of_mem _ mw_3_88)) (fun _ h9 => h9) rfl dX8_undo_12 ?_
    refine lv_iconst (v := 1) hx hb dX8_undo_15 (by decide) ?_
    refine lv_isub hx hb dX8_undo_16 ?_
    refine lv_topi (fun x16 e16 => ?_)
    have t16 : x16.toInt = gst.toInt - 1 := by rw [e16]; exact xi_sub rfl (by decide) (by omega) (by omega)
    refine va_put (D := D) (ci := 8) (v := .int x16) (ty := .int) (C := RX8) (T := TX8) (N := 14) hx hb hts xin8 tyX8 tyX8_ok nmX8 hown hK hP hD hS 0 rfl rfl 3 (by decide) (hts _ (List.mem_cons_of_mem _ mw_3_88)) (fun _ h9 => h9) rfl (by decide +kernel) rfl rfl (Nat.le_of_ble_eq_true rfl) dX8_undo_17 (fun H locs hP hD hS => ?_)
    have hP : va_P D vwCl [(h, .inr (8, [.ref h1, .ref h2, .ref h3, .int x16, .ref h4, .ref h5, .ref h6, .int gty, .int gse, .int gte, .int gsp, .ref h7, .ref h8, .int gtl])), (h1, .inl (cI, 190, .inl z)), (h3, .inl (cI, 1140, .inl past))] H := hP
    have hD : va_D A [(h, .inr (8, [.ref h1, .ref h2, .ref h3, .int x16, .ref h4, .ref h5, .ref h6, .int gty, .int gse, .int gte, .int gsp, .ref h7, .ref h8, .int gtl])), (h1, .inl (cI, 190, .inl z)), (h3, .inl (cI, 1140, .inl past))] := hD
    refine lv_aload_n hx hb dX8_undo_20 rfl (lv_at hl 0 rfl) ?_
    refine va_get (D := D) (ci := 8) (v := .ref h3) (C := RX8) (T := TX8) (N := 14) hx hb hts xin8 hown hK hP 0 rfl rfl 2 (by decide) (hts _ (List.mem_cons_of_mem _ mw_3_87)) (fun _ h9 => h9) rfl dX8_undo_21 ?_
    refine lv_sipush (v := 190) hx hb dX8_undo_24 (by decide) ?_
    refine lv_aload_n hx hb dX8_undo_27 rfl (lv_at hl 0 rfl) ?_
    refine va_get (D := D) (ci := 8) (v := .int x16) (C := RX8) (T := TX8) (N := 14) hx hb hts xin8 hown hK hP 0 rfl rfl 3 (by decide) (hts _ (List.mem_cons_of_mem _ mw_3_88)) (fun _ h9 => h9) rfl dX8_undo_28 ?_
    refine lv_imul hx hb dX8_undo_31 ?_
    refine lv_topi (fun x31 e31 => ?_)
    have t31 : x31.toInt = 190 * x16.toInt := by rw [e31]; exact xi_mul (by decide) rfl (by omega) (by omega)
    refine lv_aload_n hx hb dX8_undo_32 rfl (lv_at hl 0 rfl) ?_
    refine va_get (D := D) (ci := 8) (v := .ref h1) (C := RX8) (T := TX8) (N := 14) hx hb hts xin8 hown hK hP 0 rfl rfl 0 (by decide) (hts _ (List.mem_cons_of_mem _ mw_3_85)) (fun _ h9 => h9) rfl dX8_undo_33 ?_
    refine lv_iconst (v := 0) hx hb dX8_undo_36 (by decide) ?_
    refine xk_Sv (As := [.ref h3, .int x31, .ref h1, .int 0]) (rest := []) hx hb hml hown hts hK hN hZ hP hD hS hA mb_X8_copyState mw_3_132 mw_3_133 (c_X8_copyState l D cI cZ cS h3 h1 1140 190 past z x31 (0 : Int32) (by first | omega | decide | assumption) (by first | omega | decide | assumption) (by first | omega | decide | assumption)) [2, 1] (by decide) rfl (fun _ => rfl) (by decide) (by decide) rfl hl.1 rfl (Nat.le_of_ble_eq_true rfl) dX8_undo_37 ⟨Nat.zero_le _, Nat.zero_le _⟩ (fun _ H locs hw hP hD hS => ?_)
    have hP : va_P D vwCl [(h, .inr (8, [.ref h1, .ref h2, .ref h3, .int x16, .ref h4, .ref h5, .ref h6, .int gty, .int gse, .int gte, .int gsp, .ref h7, .ref h8, .int gtl])), (h1, .inl (cI, 190, .inl (va_cpy past z x31.toInt.toNat 0 190))), (h3, .inl (cI, 1140, .inl past))] H := hP
    have hD : va_D A [(h, .inr (8, [.ref h1, .ref h2, .ref h3, .int x16, .ref h4, .ref h5, .ref h6, .int gty, .int gse, .int gte, .int gsp, .ref h7, .ref h8, .int gtl])), (h1, .inl (cI, 190, .inl (va_cpy past z x31.toInt.toNat 0 190))), (h3, .inl (cI, 1140, .inl past))] := hD
    obtain ⟨g37_1, hg37_1⟩ : ∃ g, g = (va_cpy past z x31.toInt.toNat 0 190) := ⟨_, rfl⟩
    rw [← hg37_1] at hP hD
    have hP : va_P D vwCl [(h, .inr (8, [.ref h1, .ref h2, .ref h3, .int x16, .ref h4, .ref h5, .ref h6, .int gty, .int gse, .int gte, .int gsp, .ref h7, .ref h8, .int gtl])), (h1, .inl (cI, 190, .inl g37_1)), (h3, .inl (cI, 1140, .inl past))] H := hP
    have hD : va_D A [(h, .inr (8, [.ref h1, .ref h2, .ref h3, .int x16, .ref h4, .ref h5, .ref h6, .int gty, .int gse, .int gte, .int gsp, .ref h7, .ref h8, .int gtl])), (h1, .inl (cI, 190, .inl g37_1)), (h3, .inl (cI, 1140, .inl past))] := hD
    refine lv_aload_n hx hb dX8_undo_40 rfl (lv_at hl 0 rfl) ?_
    refine va_get (D := D) (ci := 8) (v := .int x16) (C := RX8) (T := TX8) (N := 14) hx hb hts xin8 hown hK hP 0 rfl rfl 3 (by decide) (hts _ (List.mem_cons_of_mem _ mw_3_88)) (fun _ h9 => h9) rfl dX8_undo_41 ?_
    have hz : g37_1 = undoZ gst past z := by rw [hg37_1, undoZ, if_neg d4, show x31.toInt.toNat = 190 * (gst - 1).toInt.toNat from by rw [← e16]; omega]
    have hs : x16 = undoS gst := by rw [undoS, if_neg d4, e16]
    have hv : x16 = undoR gst := by rw [undoR, if_neg d4, e16]
    exact xk_reti () hx hb hr hlocks (xk_P hP (by rw [← hz, ← hs])) (by exact hv) hS dX8_undo_44 hQ
  · have t4 : gst.toInt = 0 := xi_eq rfl (by decide) c4
    have d4 : gst = 0 := c4
    refine lv_bipush (v := (-5)) hx hb dX8_undo_7 (by decide) ?_
    have hz : z = undoZ gst past z := by rw [undoZ, if_pos d4]
    have hs : gst = undoS gst := by rw [undoS, if_pos d4]
    have hv : -5 = undoR gst := by rw [undoR, if_pos d4]
    exact xk_reti () hx hb hr hlocks (xk_P hP (by rw [← hz, ← hs])) (by exact hv) hS dX8_undo_9 hQ

set_option maxHeartbeats 4000000 in
set_option maxRecDepth 100000 in
theorem c_X8_save (l : Launch) (D : va_G) (cI cZ cS : ClassId) (h h1 h2 h3 h4 h5 h6 h7 h8 : Nat) (gst gty gse gte gsp gtl : Int32) (z slots sv : Nat → Int32) (p1 : Int32)  : xMi l yX8_save cX8_save 2 (some .int) ({ frames := 1, cells := 0, slots := 0, locals := 24 } : Room) D (xTy cI cZ cS) [.ref h, .int p1] [(h, .inr (8, [.ref h1, .ref h2, .ref h3, .int gst, .ref h4, .ref h5, .ref h6, .int gty, .int gse, .int gte, .int gsp, .ref h7, .ref h8, .int gtl])), (h1, .inl (cI, 190, .inl z)), (h4, .inl (cI, 380, .inl slots)), (h5, .inl (cZ, 2, .inl sv))] (fun (r : Int32) (_ : Unit) => r = if slotV p1 then z 174 else -2) (fun (_ : Unit) => [(h, .inr (8, [.ref h1, .ref h2, .ref h3, .int gst, .ref h4, .ref h5, .ref h6, .int gty, .int gse, .int gte, .int gsp, .ref h7, .ref h8, .int gtl])), (h1, .inl (cI, 190, .inl z)), (h4, .inl (cI, 380, .inl (if slotV p1 then va_cpy z slots 0 (190 * p1.toInt.toNat) 190 else slots))), (h5, .inl (cZ, 2, .inl (if slotV p1 then upd sv p1.toInt.toNat 1 else sv)))]) := by
  refine xk_bodyi (by decide) (Nat.le_of_ble_eq_true rfl) ?_
  intro p e s m below meth c A ls args Q hx hb hr hts hown hlocks hml hin hK hP hD hS hA hN hZ hl hQ
  have hl : lv_has ls 2 [(0, .ref h), (1, .int p1)] := hl
  refine lv_iload_n hx hb dX8_save_0 rfl (lv_at hl 1 rfl) ?_
  refine lv_iconst (v := 0) hx hb dX8_save_1 (by decide) ?_
  refine lv_iconst (v := 1) hx hb dX8_save_2 (by decide) ?_
  refine xk_Si (As := [.int p1, .int 0, .int 1]) (rest := []) hx hb hml hown hts hK hN hZ hP hD hS hA mb_X8_in mw_3_139 mw_3_140 (c_X8_in l D cI cZ cS p1 (0 : Int32) (1 : Int32) ) [] (by decide) rfl (fun _ => rfl) (by decide) (by decide) rfl hl.1 rfl (Nat.le_of_ble_eq_true rfl) dX8_save_3 ⟨Nat.zero_le _, Nat.zero_le _⟩ (fun r3 _ H locs hw hP hD hS => ?_)
  have hP : va_P D vwCl [(h, .inr (8, [.ref h1, .ref h2, .ref h3, .int gst, .ref h4, .ref h5, .ref h6, .int gty, .int gse, .int gte, .int gsp, .ref h7, .ref h8, .int gtl])), (h1, .inl (cI, 190, .inl z)), (h4, .inl (cI, 380, .inl slots)), (h5, .inl (cZ, 2, .inl sv))] H := hP
  have hD : va_D A [(h, .inr (8, [.ref h1, .ref h2, .ref h3, .int gst, .ref h4, .ref h5, .ref h6, .int gty, .int gse, .int gte, .int gsp, .ref h7, .ref h8, .int gtl])), (h1, .inl (cI, 190, .inl z)), (h4, .inl (cI, 380, .inl slots)), (h5, .inl (cZ, 2, .inl sv))] := hD
  rcases hw with ⟨rfl, b3⟩ | ⟨rfl, b3⟩
  · have b3 : 0 ≤ p1.toInt ∧ p1.toInt ≤ 1 := b3
    refine lv_if_ne (tgt := 12) hx hb dX8_save_6 (by decide) (fun _ => ?_) (fun c6 => absurd c6 (by decide))
    refine lv_aload_n hx hb dX8_save_12 rfl (lv_at hl 0 rfl) ?_
    refine va_get (D := D) (ci := 8) (v := .ref h1) (C := RX8) (T := TX8) (N := 14) hx hb hts xin8 hown hK hP 0 rfl rfl 0 (by decide) (hts _ (List.mem_cons_of_mem _ mw_3_85)) (fun _ h9 => h9) rfl dX8_save_13 ?_
    refine lv_iconst (v := 0) hx hb dX8_save_16 (by decide) ?_
    refine lv_aload_n hx hb dX8_save_17 rfl (lv_at hl 0 rfl) ?_
    refine va_get (D := D) (ci := 8) (v := .ref h4) (C := RX8) (T := TX8) (N := 14) hx hb hts xin8 hown hK hP 0 rfl rfl 4 (by decide) (hts _ (List.mem_cons_of_mem _ mw_3_89)) (fun _ h9 => h9) rfl dX8_save_18 ?_
    refine lv_sipush (v := 190) hx hb dX8_save_21 (by decide) ?_
    refine lv_iload_n hx hb dX8_save_24 rfl (lv_at hl 1 rfl) ?_
    refine lv_imul hx hb dX8_save_25 ?_
    refine lv_topi (fun x25 e25 => ?_)
    have t25 : x25.toInt = 190 * p1.toInt := by rw [e25]; exact xi_mul (by decide) rfl (by omega) (by omega)
    refine xk_Sv (As := [.ref h1, .int 0, .ref h4, .int x25]) (rest := []) hx hb hml hown hts hK hN hZ hP hD hS hA mb_X8_copyState mw_3_132 mw_3_133 (c_X8_copyState l D cI cZ cS h1 h4 190 380 z slots (0 : Int32) x25 (by first | omega | decide | assumption) (by first | omega | decide | assumption) (by first | omega | decide | assumption)) [1, 2] (by decide) rfl (fun _ => rfl) (by decide) (by decide) rfl hl.1 rfl (Nat.le_of_ble_eq_true rfl) dX8_save_26 ⟨Nat.zero_le _, Nat.zero_le _⟩ (fun _ H locs hw hP hD hS => ?_)
    have hP : va_P D vwCl [(h, .inr (8, [.ref h1, .ref h2, .ref h3, .int gst, .ref h4, .ref h5, .ref h6, .int gty, .int gse, .int gte, .int gsp, .ref h7, .ref h8, .int gtl])), (h1, .inl (cI, 190, .inl z)), (h4, .inl (cI, 380, .inl (va_cpy z slots 0 x25.toInt.toNat 190))), (h5, .inl (cZ, 2, .inl sv))] H := hP
    have hD : va_D A [(h, .inr (8, [.ref h1, .ref h2, .ref h3, .int gst, .ref h4, .ref h5, .ref h6, .int gty, .int gse, .int gte, .int gsp, .ref h7, .ref h8, .int gtl])), (h1, .inl (cI, 190, .inl z)), (h4, .inl (cI, 380, .inl (va_cpy z slots 0 x25.toInt.toNat 190))), (h5, .inl (cZ, 2, .inl sv))] := hD
    obtain ⟨g26_2, hg26_2⟩ : ∃ g, g = (va_cpy z slots 0 x25.toInt.toNat 190) := ⟨_, rfl⟩
    rw [← hg26_2] at hP hD
    have hP : va_P D vwCl [(h, .inr (8, [.ref h1, .ref h2, .ref h3, .int gst, .ref h4, .ref h5, .ref h6, .int gty, .int gse, .int gte, .int gsp, .ref h7, .ref h8, .int gtl])), (h1, .inl (cI, 190, .inl z)), (h4, .inl (cI, 380, .inl g26_2)), (h5, .inl (cZ, 2, .inl sv))] H := hP
    have hD : va_D A [(h, .inr (8, [.ref h1, .ref h2, .ref h3, .int gst, .ref h4, .ref h5, .ref h6, .int gty, .int gse, .int gte, .int gsp, .ref h7, .ref h8, .int gtl])), (h1, .inl (cI, 190, .inl z)), (h4, .inl (cI, 380, .inl g26_2)), (h5, .inl (cZ, 2, .inl sv))] := hD
    refine lv_aload_n hx hb dX8_save_29 rfl (lv_at hl 0 rfl) ?_
    refine va_get (D := D) (ci := 8) (v := .ref h5) (C := RX8) (T := TX8) (N := 14) hx hb hts xin8 hown hK hP 0 rfl rfl 5 (by decide) (hts _ (List.mem_cons_of_mem _ mw_3_90)) (fun _ h9 => h9) rfl dX8_save_30 ?_
    refine lv_iload_n hx hb dX8_save_33 rfl (lv_at hl 1 rfl) ?_
    refine lv_iconst (v := 1) hx hb dX8_save_34 (by decide) ?_
    refine va_zast hx hb hK hP hD hS 3 1 rfl rfl (xi_in (by omega) (by omega)) dX8_save_35 (fun H locs hP hD hS => ?_)
    have hP : va_P D vwCl [(h, .inr (8, [.ref h1, .ref h2, .ref h3, .int gst, .ref h4, .ref h5, .ref h6, .int gty, .int gse, .int gte, .int gsp, .ref h7, .ref h8, .int gtl])), (h1, .inl (cI, 190, .inl z)), (h4, .inl (cI, 380, .inl g26_2)), (h5, .inl (cZ, 2, .inl (upd sv p1.toInt.toNat 1)))] H := hP
    have hD : va_D A [(h, .inr (8, [.ref h1, .ref h2, .ref h3, .int gst, .ref h4, .ref h5, .ref h6, .int gty, .int gse, .int gte, .int gsp, .ref h7, .ref h8, .int gtl])), (h1, .inl (cI, 190, .inl z)), (h4, .inl (cI, 380, .inl g26_2)), (h5, .inl (cZ, 2, .inl (upd sv p1.toInt.toNat 1)))] := hD
    refine lv_aload_n hx hb dX8_save_36 rfl (lv_at hl 0 rfl) ?_
    refine va_get (D := D) (ci := 8) (v := .ref h1) (C := RX8) (T := TX8) (N := 14) hx hb hts xin8 hown hK hP 0 rfl rfl 0 (by decide) (hts _ (List.mem_cons_of_mem _ mw_3_85)) (fun _ h9 => h9) rfl dX8_save_37 ?_
    refine lv_sipush (v := 174) hx hb dX8_save_40 (by decide) ?_
    refine va_iald hx hb hK hP 1 0 rfl rfl (xi_in (by decide) (by decide)) dX8_save_43 ?_
    refine xk_top (z := z 174) rfl ?_
    have hz : g26_2 = if slotV p1 then va_cpy z slots 0 (190 * p1.toInt.toNat) 190 else slots := by rw [hg26_2, if_pos b3, show x25.toInt.toNat = 190 * p1.toInt.toNat from by omega]
    have hs : (upd sv p1.toInt.toNat 1) = if slotV p1 then upd sv p1.toInt.toNat 1 else sv := by rw [if_pos b3]
    have hv : (z 174) = if slotV p1 then z 174 else -2 := by rw [if_pos b3]
    exact xk_reti () hx hb hr hlocks (xk_P hP (by rw [← hz, ← hs])) (by exact hv) hS dX8_save_44 hQ
  · have b3 : ¬ (0 ≤ p1.toInt ∧ p1.toInt ≤ 1) := b3
    refine lv_if_ne (tgt := 12) hx hb dX8_save_6 (by decide) (fun c6 => absurd (by decide) c6) (fun _ => ?_)
    refine lv_bipush (v := (-2)) hx hb dX8_save_9 (by decide) ?_
    have hz : slots = if slotV p1 then va_cpy z slots 0 (190 * p1.toInt.toNat) 190 else slots := by rw [if_neg b3]
    have hs : sv = if slotV p1 then upd sv p1.toInt.toNat 1 else sv := by rw [if_neg b3]
    have hv : -2 = if slotV p1 then z 174 else -2 := by rw [if_neg b3]
    exact xk_reti () hx hb hr hlocks (xk_P hP (by rw [← hz, ← hs])) (by exact hv) hS dX8_save_11 hQ

set_option maxHeartbeats 4000000 in
set_option maxRecDepth 100000 in
theorem c_X8_restore (l : Launch) (D : va_G) (cI cZ cS : ClassId) (h h1 h2 h3 h4 h5 h6 h7 h8 : Nat) (gst gty gse gte gsp gtl : Int32) (z past slots sv : Nat → Int32) (p1 : Int32) (hg : 0 ≤ gst.toInt ∧ gst.toInt ≤ 6) : xMi l yX8_restore cX8_restore 2 (some .int) ({ frames := 2, cells := 0, slots := 0, locals := 45 } : Room) D (xTy cI cZ cS) [.ref h, .int p1] [(h, .inr (8, [.ref h1, .ref h2, .ref h3, .int gst, .ref h4, .ref h5, .ref h6, .int gty, .int gse, .int gte, .int gsp, .ref h7, .ref h8, .int gtl])), (h1, .inl (cI, 190, .inl z)), (h3, .inl (cI, 1140, .inl past)), (h4, .inl (cI, 380, .inl slots)), (h5, .inl (cZ, 2, .inl sv))] (fun (r : Int32) (_ : Unit) => r = restR p1 sv slots) (fun (_ : Unit) => [(h, .inr (8, [.ref h1, .ref h2, .ref h3, .int (if restC p1 sv then recS gst else gst), .ref h4, .ref h5, .ref h6, .int gty, .int gse, .int gte, .int gsp, .ref h7, .ref h8, .int gtl])), (h1, .inl (cI, 190, .inl (if restC p1 sv then va_cpy slots z (190 * p1.toInt.toNat) 0 190 else z))), (h3, .inl (cI, 1140, .inl (if restC p1 sv then recP z past gst else past))), (h4, .inl (cI, 380, .inl slots)), (h5, .inl (cZ, 2, .inl sv))]) := by
  refine xk_bodyi (by decide) (Nat.le_of_ble_eq_true rfl) ?_
  intro p e s m below meth c A ls args Q hx hb hr hts hown hlocks hml hin hK hP hD hS hA hN hZ hl hQ
  have hl : lv_has ls 2 [(0, .ref h), (1, .int p1)] := hl
  refine lv_iload_n hx hb dX8_restore_0 rfl (lv_at hl 1 rfl) ?_
  refine lv_iconst (v := 0) hx hb dX8_restore_1 (by decide) ?_
  refine lv_iconst (v := 1) hx hb dX8_restore_2 (by decide) ?_
  refine xk_Si (As := [.int p1, .int 0, .int 1]) (rest := []) hx hb hml hown hts hK hN hZ hP hD hS hA mb_X8_in mw_3_139 mw_3_140 (c_X8_in l D cI cZ cS p1 (0 : Int32) (1 : Int32) ) [] (by decide) rfl (fun _ => rfl) (by decide) (by decide) rfl hl.1 rfl (Nat.le_of_ble_eq_true rfl) dX8_restore_3 ⟨Nat.zero_le _, Nat.zero_le _⟩ (fun r3 _ H locs hw hP hD hS => ?_)
  have hP : va_P D vwCl [(h, .inr (8, [.ref h1, .ref h2, .ref h3, .int gst, .ref h4, .ref h5, .ref h6, .int gty, .int gse, .int gte, .int gsp, .ref h7, .ref h8, .int gtl])), (h1, .inl (cI, 190, .inl z)), (h3, .inl (cI, 1140, .inl past)), (h4, .inl (cI, 380, .inl slots)), (h5, .inl (cZ, 2, .inl sv))] H := hP
  have hD : va_D A [(h, .inr (8, [.ref h1, .ref h2, .ref h3, .int gst, .ref h4, .ref h5, .ref h6, .int gty, .int gse, .int gte, .int gsp, .ref h7, .ref h8, .int gtl])), (h1, .inl (cI, 190, .inl z)), (h3, .inl (cI, 1140, .inl past)), (h4, .inl (cI, 380, .inl slots)), (h5, .inl (cZ, 2, .inl sv))] := hD
  rcases hw with ⟨rfl, b3⟩ | ⟨rfl, b3⟩
  · have b3 : 0 ≤ p1.toInt ∧ p1.toInt ≤ 1 := b3
    refine lv_if_ne (tgt := 12) hx hb dX8_restore_6 (by decide) (fun _ => ?_) (fun c6 => absurd c6 (by decide))
    refine lv_aload_n hx hb dX8_restore_12 rfl (lv_at hl 0 rfl) ?_
    refine va_get (D := D) (ci := 8) (v := .ref h5) (C := RX8) (T := TX8) (N := 14) hx hb hts xin8 hown hK hP 0 rfl rfl 5 (by decide) (hts _ (List.mem_cons_of_mem _ mw_3_90)) (fun _ h9 => h9) rfl dX8_restore_13 ?_
    refine lv_iload_n hx hb dX8_restore_16 rfl (lv_at hl 1 rfl) ?_
    refine va_zald hx hb hK hP 4 1 rfl rfl (xi_in (by omega) (by omega)) dX8_restore_17 ?_
    refine xk_top (z := sv p1.toInt.toNat) rfl ?_
    refine lv_topi (fun x17 e17 => ?_)
    refine lv_if_ne (tgt := 24) hx hb dX8_restore_18 (by decide) (fun c18 => ?_) (fun c18 => ?_)
    · have t18 : ¬ x17.toInt = 0 := xi_ne rfl (by decide) c18
      have d18 : ¬ x17 = 0 := c18
      refine lv_aload_n hx hb dX8_restore_24 rfl (lv_at hl 0 rfl) ?_
      refine xk_Vv (As := []) (rest := []) hx hb hml hown hts hK hN hZ hP hD hS hA mb_X8_record mw_3_146 mw_3_148 mw_0_5 (c_X8_record l D cI cZ cS h h1 h2 h3 h4 h5 h6 h7 h8 gst gty gse gte gsp gtl z past (by first | omega | decide | assumption)) [0, 1, 2] 0 8 rfl rfl (by decide) rfl (fun _ => rfl) (by decide) (by decide) rfl hl.1 rfl (Nat.le_of_ble_eq_true rfl) dX8_restore_25 ⟨Nat.zero_le _, Nat.zero_le _⟩ (fun _ H locs hw hP hD hS => ?_)
      have hP : va_P D vwCl [(h, .inr (8, [.ref h1, .ref h2, .ref h3, .int (recS gst), .ref h4, .ref h5, .ref h6, .int gty, .int gse, .int gte, .int gsp, .ref h7, .ref h8, .int gtl])), (h1, .inl (cI, 190, .inl z)), (h3, .inl (cI, 1140, .inl (recP z past gst))), (h4, .inl (cI, 380, .inl slots)), (h5, .inl (cZ, 2, .inl sv))] H := hP
      have hD : va_D A [(h, .inr (8, [.ref h1, .ref h2, .ref h3, .int (recS gst), .ref h4, .ref h5, .ref h6, .int gty, .int gse, .int gte, .int gsp, .ref h7, .ref h8, .int gtl])), (h1, .inl (cI, 190, .inl z)), (h3, .inl (cI, 1140, .inl (recP z past gst))), (h4, .inl (cI, 380, .inl slots)), (h5, .inl (cZ, 2, .inl sv))] := hD
      obtain ⟨g25_2, hg25_2⟩ : ∃ g, g = (recP z past gst) := ⟨_, rfl⟩
      rw [← hg25_2] at hP hD
      have hP : va_P D vwCl [(h, .inr (8, [.ref h1, .ref h2, .ref h3, .int (recS gst), .ref h4, .ref h5, .ref h6, .int gty, .int gse, .int gte, .int gsp, .ref h7, .ref h8, .int gtl])), (h1, .inl (cI, 190, .inl z)), (h3, .inl (cI, 1140, .inl g25_2)), (h4, .inl (cI, 380, .inl slots)), (h5, .inl (cZ, 2, .inl sv))] H := hP
      have hD : va_D A [(h, .inr (8, [.ref h1, .ref h2, .ref h3, .int (recS gst), .ref h4, .ref h5, .ref h6, .int gty, .int gse, .int gte, .int gsp, .ref h7, .ref h8, .int gtl])), (h1, .inl (cI, 190, .inl z)), (h3, .inl (cI, 1140, .inl g25_2)), (h4, .inl (cI, 380, .inl slots)), (h5, .inl (cZ, 2, .inl sv))] := hD
      refine lv_aload_n hx hb dX8_restore_28 rfl (lv_at hl 0 rfl) ?_
      refine va_get (D := D) (ci := 8) (v := .ref h4) (C := RX8) (T := TX8) (N := 14) hx hb hts xin8 hown hK hP 0 rfl rfl 4 (by decide) (hts _ (List.mem_cons_of_mem _ mw_3_89)) (fun _ h9 => h9) rfl dX8_restore_29 ?_
      refine lv_sipush (v := 190) hx hb dX8_restore_32 (by decide) ?_
      refine lv_iload_n hx hb dX8_restore_35 rfl (lv_at hl 1 rfl) ?_
      refine lv_imul hx hb dX8_restore_36 ?_
      refine lv_topi (fun x36 e36 => ?_)
      have t36 : x36.toInt = 190 * p1.toInt := by rw [e36]; exact xi_mul (by decide) rfl (by omega) (by omega)
      refine lv_aload_n hx hb dX8_restore_37 rfl (lv_at hl 0 rfl) ?_
      refine va_get (D := D) (ci := 8) (v := .ref h1) (C := RX8) (T := TX8) (N := 14) hx hb hts xin8 hown hK hP 0 rfl rfl 0 (by decide) (hts _ (List.mem_cons_of_mem _ mw_3_85)) (fun _ h9 => h9) rfl dX8_restore_38 ?_
      refine lv_iconst (v := 0) hx hb dX8_restore_41 (by decide) ?_
      refine xk_Sv (As := [.ref h4, .int x36, .ref h1, .int 0]) (rest := []) hx hb hml hown hts hK hN hZ hP hD hS hA mb_X8_copyState mw_3_132 mw_3_133 (c_X8_copyState l D cI cZ cS h4 h1 380 190 slots z x36 (0 : Int32) (by first | omega | decide | assumption) (by first | omega | decide | assumption) (by first | omega | decide | assumption)) [3, 1] (by decide) rfl (fun _ => rfl) (by decide) (by decide) rfl hl.1 rfl (Nat.le_of_ble_eq_true rfl) dX8_restore_42 ⟨Nat.zero_le _, Nat.zero_le _⟩ (fun _ H locs hw hP hD hS => ?_)
      have hP : va_P D vwCl [(h, .inr (8, [.ref h1, .ref h2, .ref h3, .int (recS gst), .ref h4, .ref h5, .ref h6, .int gty, .int gse, .int gte, .int gsp, .ref h7, .ref h8, .int gtl])), (h1, .inl (cI, 190, .inl (va_cpy slots z x36.toInt.toNat 0 190))), (h3, .inl (cI, 1140, .inl g25_2)), (h4, .inl (cI, 380, .inl slots)), (h5, .inl (cZ, 2, .inl sv))] H := hP
      have hD : va_D A [(h, .inr (8, [.ref h1, .ref h2, .ref h3, .int (recS gst), .ref h4, .ref h5, .ref h6, .int gty, .int gse, .int gte, .int gsp, .ref h7, .ref h8, .int gtl])), (h1, .inl (cI, 190, .inl (va_cpy slots z x36.toInt.toNat 0 190))), (h3, .inl (cI, 1140, .inl g25_2)), (h4, .inl (cI, 380, .inl slots)), (h5, .inl (cZ, 2, .inl sv))] := hD
      obtain ⟨g42_1, hg42_1⟩ : ∃ g, g = (va_cpy slots z x36.toInt.toNat 0 190) := ⟨_, rfl⟩
      rw [← hg42_1] at hP hD
      have hP : va_P D vwCl [(h, .inr (8, [.ref h1, .ref h2, .ref h3, .int (recS gst), .ref h4, .ref h5, .ref h6, .int gty, .int gse, .int gte, .int gsp, .ref h7, .ref h8, .int gtl])), (h1, .inl (cI, 190, .inl g42_1)), (h3, .inl (cI, 1140, .inl g25_2)), (h4, .inl (cI, 380, .inl slots)), (h5, .inl (cZ, 2, .inl sv))] H := hP
      have hD : va_D A [(h, .inr (8, [.ref h1, .ref h2, .ref h3, .int (recS gst), .ref h4, .ref h5, .ref h6, .int gty, .int gse, .int gte, .int gsp, .ref h7, .ref h8, .int gtl])), (h1, .inl (cI, 190, .inl g42_1)), (h3, .inl (cI, 1140, .inl g25_2)), (h4, .inl (cI, 380, .inl slots)), (h5, .inl (cZ, 2, .inl sv))] := hD
      refine lv_aload_n hx hb dX8_restore_45 rfl (lv_at hl 0 rfl) ?_
      refine va_get (D := D) (ci := 8) (v := .ref h1) (C := RX8) (T := TX8) (N := 14) hx hb hts xin8 hown hK hP 0 rfl rfl 0 (by decide) (hts _ (List.mem_cons_of_mem _ mw_3_85)) (fun _ h9 => h9) rfl dX8_restore_46 ?_
      refine lv_sipush (v := 174) hx hb dX8_restore_49 (by decide) ?_
      refine va_iald hx hb hK hP 1 0 rfl rfl (xi_in (by decide) (by decide)) dX8_restore_52 ?_
      refine xk_top (z := g42_1 174) rfl ?_
      have hc : restC p1 sv := ⟨b3, by rw [← e17]; exact d18⟩
      have hz : g42_1 = if restC p1 sv then va_cpy slots z (190 * p1.toInt.toNat) 0 190 else z := by rw [hg42_1, if_pos hc, show x36.toInt.toNat = 190 * p1.toInt.toNat from by omega]
      have hp : g25_2 = if restC p1 sv then recP z past gst else past := by rw [hg25_2, if_pos hc]
      have hs : (recS gst) = if restC p1 sv then recS gst else gst := by rw [if_pos hc]
      have hv : (g42_1 174) = restR p1 sv slots := by rw [restR, if_pos b3, if_neg (show ¬ sv p1.toInt.toNat = 0 from by rw [← e17]; exact d18), hg42_1, va_cpy, if_pos (by omega)]; congr 1; omega
      exact xk_reti () hx hb hr hlocks (xk_P hP (by rw [← hz, ← hp, ← hs])) (by exact hv) hS dX8_restore_53 hQ
    · have t18 : x17.toInt = 0 := xi_eq rfl (by decide) c18
      have d18 : x17 = 0 := c18
      refine lv_bipush (v := (-5)) hx hb dX8_restore_21 (by decide) ?_
      have hc : ¬ restC p1 sv := fun hh => hh.2 (by rw [← e17]; exact d18)
      have hz : z = if restC p1 sv then va_cpy slots z (190 * p1.toInt.toNat) 0 190 else z := by rw [if_neg hc]
      have hp : past = if restC p1 sv then recP z past gst else past := by rw [if_neg hc]
      have hs : gst = if restC p1 sv then recS gst else gst := by rw [if_neg hc]
      have hv : (-5) = restR p1 sv slots := by rw [restR, if_pos b3, if_pos (show sv p1.toInt.toNat = 0 from by rw [← e17]; exact d18)]
      exact xk_reti () hx hb hr hlocks (xk_P hP (by rw [← hz, ← hp, ← hs])) (by exact hv) hS dX8_restore_23 hQ
  · have b3 : ¬ (0 ≤ p1.toInt ∧ p1.toInt ≤ 1) := b3
    refine lv_if_ne (tgt := 12) hx hb dX8_restore_6 (by decide) (fun c6 => absurd (by decide) c6) (fun _ => ?_)
    refine lv_bipush (v := (-2)) hx hb dX8_restore_9 (by decide) ?_
    have hc : ¬ restC p1 sv := fun hh => b3 hh.1
    have hz : z = if restC p1 sv then va_cpy slots z (190 * p1.toInt.toNat) 0 190 else z := by rw [if_neg hc]
    have hp : past = if restC p1 sv then recP z past gst else past := by rw [if_neg hc]
    have hs : gst = if restC p1 sv then recS gst else gst := by rw [if_neg hc]
    have hv : (-2) = restR p1 sv slots := by rw [restR, if_neg b3]
    exact xk_reti () hx hb hr hlocks (xk_P hP (by rw [← hz, ← hp, ← hs])) (by exact hv) hS dX8_restore_11 hQ

set_option maxHeartbeats 4000000 in
set_option maxRecDepth 100000 in
theorem c_X8_beginNow (l : Launch) (D : va_G) (cI cZ cS : ClassId) (h h1 h2 h3 h4 h5 h6 h7 h8 : Nat) (gst gty gse gte gsp gtl : Int32) (z : Nat → Int32)   : xMv l yX8_beginNow cX8_beginNow 2 none ({ frames := 0, cells := 0, slots := 0, locals := 0 } : Room) D (xTy cI cZ cS) [.ref h] [(h, .inr (8, [.ref h1, .ref h2, .ref h3, .int gst, .ref h4, .ref h5, .ref h6, .int gty, .int gse, .int gte, .int gsp, .ref h7, .ref h8, .int gtl])), (h1, .inl (cI, 190, .inl z))] (fun (_ : Unit) => True) (fun (_ : Unit) => [(h, .inr (8, [.ref h1, .ref h2, .ref h3, .int gst, .ref h4, .ref h5, .ref h6, .int gty, .int gse, .int gte, .int gsp, .ref h7, .ref h8, .int gtl])), (h1, .inl (cI, 190, .inl (beginZ z)))]) := by
  refine xk_bodyv (by decide) (Nat.le_of_ble_eq_true rfl) ?_
  intro p e s m below meth c A ls args Q hx hb hr hts hown hlocks hml hin hK hP hD hS hA hN hZ hl hQ
  have hl : lv_has ls 2 [(0, .ref h)] := hl
  refine lv_sipush (v := 174) hx hb dX8_beginNow_0 (by decide) ?_
  refine lv_istore_n (lv' := [(1, .int 174), (0, .ref h)]) hx hb dX8_beginNow_3 rfl hl (by decide) rfl (fun ls hl => ?_)
  have L4 : ∀ (n : Nat) (k : Int32) (hk : 174 ≤ k.toInt ∧ k.toInt ≤ 190) (hn4 : 190 - k.toInt.toNat < n) (H : Heap) (locs : List Loc), va_P D vwCl [(h, .inr (8, [.ref h1, .ref h2, .ref h3, .int gst, .ref h4, .ref h5, .ref h6, .int gty, .int gse, .int gte, .int gsp, .ref h7, .ref h8, .int gtl])), (h1, .inl (cI, 190, .inl (begP z k.toInt.toNat)))] H → va_D A [(h, .inr (8, [.ref h1, .ref h2, .ref h3, .int gst, .ref h4, .ref h5, .ref h6, .int gty, .int gse, .int gte, .int gsp, .ref h7, .ref h8, .int gtl])), (h1, .inl (cI, 190, .inl (begP z k.toInt.toNat)))] → va_S A s.heap H locs → ∀ ls : Array Slot, lv_has ls 2 [(1, .int k), (0, .ref h)] → W p l e ({ frames := 0, cells := 0, slots := 0, locals := 0 } : Room) s m args below meth c H locs 0 0 Q (F0 m 4 ls []) := by
    intro n
    induction n with
    | zero =>
      intro k hk hn4
      exact absurd hn4 (Nat.not_lt_zero _)
    | succ n ih4 =>
      intro k hk hn4 H locs hP hD hS ls hl
      refine lv_iload_n hx hb dX8_beginNow_4 rfl (lv_at hl 0 rfl) ?_
      refine lv_sipush (v := 190) hx hb dX8_beginNow_5 (by decide) ?_
      refine lv_icmp_ge (tgt := 24) hx hb dX8_beginNow_8 (by decide) (fun c8 => ?_) (fun c8 => ?_)
      · have t8 : 190 ≤ k.toInt := xi_le (by decide) rfl c8
        have f24 : (begP z k.toInt.toNat) = begP z 190 := by rw [show k.toInt.toNat = 190 from by omega]
        rw [f24] at hP hD
        have hP : va_P D vwCl [(h, .inr (8, [.ref h1, .ref h2, .ref h3, .int gst, .ref h4, .ref h5, .ref h6, .int gty, .int gse, .int gte, .int gsp, .ref h7, .ref h8, .int gtl])), (h1, .inl (cI, 190, .inl (begP z 190)))] H := hP
        have hD : va_D A [(h, .inr (8, [.ref h1, .ref h2, .ref h3, .int gst, .ref h4, .ref h5, .ref h6, .int gty, .int gse, .int gte, .int gsp, .ref h7, .ref h8, .int gtl])), (h1, .inl (cI, 190, .inl (begP z 190)))] := hD
        refine lv_aload_n hx hb dX8_beginNow_24 rfl (lv_at hl 1 rfl) ?_
        refine va_get (D := D) (ci := 8) (v := .ref h1) (C := RX8) (T := TX8) (N := 14) hx hb hts xin8 hown hK hP 0 rfl rfl 0 (by decide) (hts _ (List.mem_cons_of_mem _ mw_3_85)) (fun _ h9 => h9) rfl dX8_beginNow_25 ?_
        refine lv_sipush (v := 181) hx hb dX8_beginNow_28 (by decide) ?_
        refine lv_aload_n hx hb dX8_beginNow_31 rfl (lv_at hl 1 rfl) ?_
        refine va_get (D := D) (ci := 8) (v := .ref h1) (C := RX8) (T := TX8) (N := 14) hx hb hts xin8 hown hK hP 0 rfl rfl 0 (by decide) (hts _ (List.mem_cons_of_mem _ mw_3_85)) (fun _ h9 => h9) rfl dX8_beginNow_32 ?_
        refine lv_iconst (v := 4) hx hb dX8_beginNow_35 (by decide) ?_
        refine va_iald hx hb hK hP 1 0 rfl rfl (xi_in (by decide) (by decide)) dX8_beginNow_36 ?_
        refine xk_top (z := (begP z 190) 4) rfl ?_
        refine lv_topi (fun x36 e36 => ?_)
        refine va_iast hx hb hK hP hD hS 1 0 rfl rfl (xi_in (by decide) (by decide)) dX8_beginNow_37 (fun H locs hP hD hS => ?_)
        have hP : va_P D vwCl [(h, .inr (8, [.ref h1, .ref h2, .ref h3, .int gst, .ref h4, .ref h5, .ref h6, .int gty, .int gse, .int gte, .int gsp, .ref h7, .ref h8, .int gtl])), (h1, .inl (cI, 190, .inl (upd (begP z 190) 181 x36)))] H := hP
        have hD : va_D A [(h, .inr (8, [.ref h1, .ref h2, .ref h3, .int gst, .ref h4, .ref h5, .ref h6, .int gty, .int gse, .int gte, .int gsp, .ref h7, .ref h8, .int gtl])), (h1, .inl (cI, 190, .inl (upd (begP z 190) 181 x36)))] := hD
        have hz : (upd (begP z 190) 181 x36) = beginZ z := by rw [e36, begP_4, begP_e]
        exact xk_retv () hx hb hr hlocks (xk_P hP (by rw [hz])) (by trivial) hS dX8_beginNow_38 hQ
      · have t8 : k.toInt < 190 := xi_nle (by decide) rfl c8
        refine lv_aload_n hx hb dX8_beginNow_11 rfl (lv_at hl 1 rfl) ?_
        refine va_get (D := D) (ci := 8) (v := .ref h1) (C := RX8) (T := TX8) (N := 14) hx hb hts xin8 hown hK hP 0 rfl rfl 0 (by decide) (hts _ (List.mem_cons_of_mem _ mw_3_85)) (fun _ h9 => h9) rfl dX8_beginNow_12 ?_
        refine lv_iload_n hx hb dX8_beginNow_15 rfl (lv_at hl 0 rfl) ?_
        refine lv_iconst (v := 0) hx hb dX8_beginNow_16 (by decide) ?_
        refine va_iast hx hb hK hP hD hS 1 0 rfl rfl (xi_in (by omega) (by omega)) dX8_beginNow_17 (fun H locs hP hD hS => ?_)
        rw [show k.toNatClampNeg = k.toInt.toNat from xk_ix (by omega)] at hP hD
        have hP : va_P D vwCl [(h, .inr (8, [.ref h1, .ref h2, .ref h3, .int gst, .ref h4, .ref h5, .ref h6, .int gty, .int gse, .int gte, .int gsp, .ref h7, .ref h8, .int gtl])), (h1, .inl (cI, 190, .inl (upd (begP z k.toInt.toNat) k.toInt.toNat 0)))] H := hP
        have hD : va_D A [(h, .inr (8, [.ref h1, .ref h2, .ref h3, .int gst, .ref h4, .ref h5, .ref h6, .int gty, .int gse, .int gte, .int gsp, .ref h7, .ref h8, .int gtl])), (h1, .inl (cI, 190, .inl (upd (begP z k.toInt.toNat) k.toInt.toNat 0)))] := hD
        obtain ⟨x18, e18⟩ : ∃ y : Int32, y = k + 1 := ⟨_, rfl⟩
        have t18 : x18.toInt = k.toInt + 1 := by rw [e18]; exact xi_add rfl (by decide) (by omega) (by omega)
        refine lv_iinc (v := x18) (lv' := [(1, .int x18), (0, .ref h)]) hx hb dX8_beginNow_18 hl (k := 0) rfl (by rw [e18]; rfl) (by decide) rfl (fun ls hl => ?_)
        refine lv_goto (tgt := 4) hx hb dX8_beginNow_21 (by decide) ?_
        have q4 : ([(h, .inr (8, [.ref h1, .ref h2, .ref h3, .int gst, .ref h4, .ref h5, .ref h6, .int gty, .int gse, .int gte, .int gsp, .ref h7, .ref h8, .int gtl])), (h1, .inl (cI, 190, .inl (upd (begP z k.toInt.toNat) k.toInt.toNat 0)))] : va_W) = [(h, .inr (8, [.ref h1, .ref h2, .ref h3, .int gst, .ref h4, .ref h5, .ref h6, .int gty, .int gse, .int gte, .int gsp, .ref h7, .ref h8, .int gtl])), (h1, .inl (cI, 190, .inl (begP z x18.toInt.toNat)))] := by rw [begP_s _ _ (by omega), show x18.toInt.toNat = k.toInt.toNat + 1 from by omega]
        exact ih4  x18 (by first | omega | assumption) (by omega) _ _ (xk_P hP q4) (xk_D hD q4) hS ls (lv_sub hl [0, 1] rfl)
  have q4 : ([(h, .inr (8, [.ref h1, .ref h2, .ref h3, .int gst, .ref h4, .ref h5, .ref h6, .int gty, .int gse, .int gte, .int gsp, .ref h7, .ref h8, .int gtl])), (h1, .inl (cI, 190, .inl z))] : va_W) = [(h, .inr (8, [.ref h1, .ref h2, .ref h3, .int gst, .ref h4, .ref h5, .ref h6, .int gty, .int gse, .int gte, .int gsp, .ref h7, .ref h8, .int gtl])), (h1, .inl (cI, 190, .inl (begP z 174)))] := by rw [begP_0]
  exact L4 191 (174 : Int32) (by decide) (by decide) _ _ (xk_P hP q4) (xk_D hD q4) hS ls (lv_sub hl [0, 1] rfl)

set_option maxHeartbeats 4000000 in
set_option maxRecDepth 100000 in
theorem c_X8_marchNow (l : Launch) (D : va_G) (cI cZ cS : ClassId) (h h1 h2 h3 h4 h5 h6 h7 h8 : Nat) (gst gty gse gte gsp gtl : Int32) (z : Nat → Int32) (p1 : Int32) (hp : 0 ≤ p1.toInt ∧ p1.toInt ≤ 100000) (hI0 : InvZ z) (hC0 : canZ z) : xMi l yX8_marchNow cX8_marchNow 3 (some .int) ({ frames := 3, cells := 0, slots := 0, locals := 65 } : Room) D (xTy cI cZ cS) [.ref h, .int p1] [(h, .inr (8, [.ref h1, .ref h2, .ref h3, .int gst, .ref h4, .ref h5, .ref h6, .int gty, .int gse, .int gte, .int gsp, .ref h7, .ref h8, .int gtl])), (h1, .inl (cI, 190, .inl z))] (fun (r : Int32) (u : Int32 × Int32) => r.toInt = (walkN p1.toInt.toNat z : Int)) (fun (u : Int32 × Int32) => [(h, .inr (8, [.ref h1, .ref h2, .ref h3, .int gst, .ref h4, .ref h5, .ref h6, .int gty, .int u.1, .int u.2, .int gsp, .ref h7, .ref h8, .int gtl])), (h1, .inl (cI, 190, .inl (walkZ p1.toInt.toNat z)))]) := by
  refine xk_bodyi (by decide) (Nat.le_of_ble_eq_true rfl) ?_
  intro p e s m below meth c A ls args Q hx hb hr hts hown hlocks hml hin hK hP hD hS hA hN hZ hl hQ
  have hl : lv_has ls 3 [(0, .ref h), (1, .int p1)] := hl
  refine lv_iconst (v := 0) hx hb dX8_marchNow_0 (by decide) ?_
  refine lv_istore_n (lv' := [(2, .int 0), (0, .ref h), (1, .int p1)]) hx hb dX8_marchNow_1 rfl hl (by decide) rfl (fun ls hl => ?_)
  have L2 : ∀ (n : Nat) (k : Int32) (w : Nat → Int32) (se : Int32) (te : Int32) (hk : 0 ≤ k.toInt ∧ k.toInt ≤ p1.toInt) (hI : InvZ w) (hC : canZ w) (hn : k.toInt + walkN (p1.toInt - k.toInt).toNat w = walkN p1.toInt.toNat z) (hW : walkZ (p1.toInt - k.toInt).toNat w = walkZ p1.toInt.toNat z) (hn2 : (p1.toInt - k.toInt).toNat < n) (H : Heap) (locs : List Loc), va_P D vwCl [(h, .inr (8, [.ref h1, .ref h2, .ref h3, .int gst, .ref h4, .ref h5, .ref h6, .int gty, .int se, .int te, .int gsp, .ref h7, .ref h8, .int gtl])), (h1, .inl (cI, 190, .inl w))] H → va_D A [(h, .inr (8, [.ref h1, .ref h2, .ref h3, .int gst, .ref h4, .ref h5, .ref h6, .int gty, .int se, .int te, .int gsp, .ref h7, .ref h8, .int gtl])), (h1, .inl (cI, 190, .inl w))] → va_S A s.heap H locs → ∀ ls : Array Slot, lv_has ls 3 [(2, .int k), (0, .ref h), (1, .int p1)] → W p l e ({ frames := 3, cells := 0, slots := 0, locals := 65 } : Room) s m args below meth c H locs 0 0 Q (F0 m 2 ls []) := by
    intro n
    induction n with
    | zero =>
      intro k w se te hk hI hC hn hW hn2
      exact absurd hn2 (Nat.not_lt_zero _)
    | succ n ih2 =>
      intro k w se te hk hI hC hn hW hn2 H locs hP hD hS ls hl
      refine lv_iload_n hx hb dX8_marchNow_2 rfl (lv_at hl 0 rfl) ?_
      refine lv_iload_n hx hb dX8_marchNow_3 rfl (lv_at hl 2 rfl) ?_
      refine lv_icmp_ge (tgt := 28) hx hb dX8_marchNow_4 (by decide) (fun c4 => ?_) (fun c4 => ?_)
      · have t4 : p1.toInt ≤ k.toInt := xi_le rfl rfl c4
        refine lv_iload_n hx hb dX8_marchNow_28 rfl (lv_at hl 0 rfl) ?_
        rw [show (p1.toInt - k.toInt).toNat = 0 from by omega, walkN] at hn
        rw [show (p1.toInt - k.toInt).toNat = 0 from by omega, walkZ] at hW
        exact xk_reti (se, te) hx hb hr hlocks (xk_P hP (by rw [hW])) (by omega) hS dX8_marchNow_29 hQ
      · have t4 : k.toInt < p1.toInt := xi_nle rfl rfl c4
        refine lv_aload_n hx hb dX8_marchNow_7 rfl (lv_at hl 1 rfl) ?_
        refine va_get (D := D) (ci := 8) (v := .ref h1) (C := RX8) (T := TX8) (N := 14) hx hb hts xin8 hown hK hP 0 rfl rfl 0 (by decide) (hts _ (List.mem_cons_of_mem _ mw_3_85)) (fun _ h9 => h9) rfl dX8_marchNow_8 ?_
        refine lv_sipush (v := 188) hx hb dX8_marchNow_11 (by decide) ?_
        refine va_iald hx hb hK hP 1 0 rfl rfl (xi_in (by decide) (by decide)) dX8_marchNow_14 ?_
        refine xk_top (z := w 188) rfl ?_
        refine lv_if_ne (tgt := 28) hx hb dX8_marchNow_15 (by decide) (fun c15 => ?_) (fun c15 => ?_)
        · have t15 : ¬ (w 188).toInt = 0 := xi_ne rfl (by decide) c15
          have d15 : ¬ (w 188) = 0 := c15
          refine lv_iload_n hx hb dX8_marchNow_28 rfl (lv_at hl 0 rfl) ?_
          have hs : (p1.toInt - k.toInt).toNat = ((p1.toInt - k.toInt).toNat - 1) + 1 := by omega
          rw [hs, walkN, if_neg d15] at hn
          rw [hs, walkZ, if_neg d15] at hW
          exact xk_reti (se, te) hx hb hr hlocks (xk_P hP (by rw [hW])) (by omega) hS dX8_marchNow_29 hQ
        · have t15 : (w 188).toInt = 0 := xi_eq rfl (by decide) c15
          have d15 : (w 188) = 0 := c15
          refine lv_aload_n hx hb dX8_marchNow_18 rfl (lv_at hl 1 rfl) ?_
          refine xk_Vv (As := []) (rest := []) hx hb hml hown hts hK hN hZ hP hD hS hA mb_X8_beat mw_3_162 mw_3_164 mw_0_8 (c_X8_beat l D cI cZ cS h h1 h2 h3 h4 h5 h6 h7 h8 gst gty se te gsp gtl w (by exact InvZ_at hI hC d15) (by exact InvZ_h5 hI) (by exact InvZ_pos hI)) [0, 1] 0 8 rfl rfl (by decide) rfl (fun _ => rfl) (by decide) (by decide) rfl hl.1 rfl (Nat.le_of_ble_eq_true rfl) dX8_marchNow_19 ⟨Nat.zero_le _, Nat.zero_le _⟩ (fun _ H locs hw hP hD hS => ?_)
          have hP : va_P D vwCl [(h, .inr (8, [.ref h1, .ref h2, .ref h3, .int gst, .ref h4, .ref h5, .ref h6, .int gty, .int (if endG w then 1 else 0), .int (if endS w then 1 else 0), .int gsp, .ref h7, .ref h8, .int gtl])), (h1, .inl (cI, 190, .inl (beatZ w)))] H := hP
          have hD : va_D A [(h, .inr (8, [.ref h1, .ref h2, .ref h3, .int gst, .ref h4, .ref h5, .ref h6, .int gty, .int (if endG w then 1 else 0), .int (if endS w then 1 else 0), .int gsp, .ref h7, .ref h8, .int gtl])), (h1, .inl (cI, 190, .inl (beatZ w)))] := hD
          obtain ⟨g19_1, hg19_1⟩ : ∃ g, g = (beatZ w) := ⟨_, rfl⟩
          rw [← hg19_1] at hP hD
          have hP : va_P D vwCl [(h, .inr (8, [.ref h1, .ref h2, .ref h3, .int gst, .ref h4, .ref h5, .ref h6, .int gty, .int (if endG w then 1 else 0), .int (if endS w then 1 else 0), .int gsp, .ref h7, .ref h8, .int gtl])), (h1, .inl (cI, 190, .inl g19_1))] H := hP
          have hD : va_D A [(h, .inr (8, [.ref h1, .ref h2, .ref h3, .int gst, .ref h4, .ref h5, .ref h6, .int gty, .int (if endG w then 1 else 0), .int (if endS w then 1 else 0), .int gsp, .ref h7, .ref h8, .int gtl])), (h1, .inl (cI, 190, .inl g19_1))] := hD
          obtain ⟨x22, e22⟩ : ∃ y : Int32, y = k + 1 := ⟨_, rfl⟩
          have t22 : x22.toInt = k.toInt + 1 := by rw [e22]; exact xi_add rfl (by decide) (by omega) (by omega)
          refine lv_iinc (v := x22) (lv' := [(2, .int x22), (0, .ref h), (1, .int p1)]) hx hb dX8_marchNow_22 hl (k := 0) rfl (by rw [e22]; rfl) (by decide) rfl (fun ls hl => ?_)
          refine lv_goto (tgt := 2) hx hb dX8_marchNow_25 (by decide) ?_
          have hs : (p1.toInt - k.toInt).toNat = (p1.toInt - x22.toInt).toNat + 1 := by omega
          rw [hs, walkN, if_pos d15] at hn
          rw [hs, walkZ, if_pos d15] at hW
          have q2 : ([(h, .inr (8, [.ref h1, .ref h2, .ref h3, .int gst, .ref h4, .ref h5, .ref h6, .int gty, .int (if endG w then 1 else 0), .int (if endS w then 1 else 0), .int gsp, .ref h7, .ref h8, .int gtl])), (h1, .inl (cI, 190, .inl g19_1))] : va_W) = [(h, .inr (8, [.ref h1, .ref h2, .ref h3, .int gst, .ref h4, .ref h5, .ref h6, .int gty, .int (if endG w then 1 else 0), .int (if endS w then 1 else 0), .int gsp, .ref h7, .ref h8, .int gtl])), (h1, .inl (cI, 190, .inl (beatZ w)))] := by rw [hg19_1]
          exact ih2  x22 (beatZ w) (if endG w then 1 else 0) (if endS w then 1 else 0) (by first | omega | assumption) (by exact beat_inv hI hC d15) (by exact beat_can hC) (by omega) (by exact hW) (by omega) _ _ (xk_P hP q2) (xk_D hD q2) hS ls (lv_sub hl [0, 1, 2] rfl)
  exact L2 (p1.toInt.toNat + 1) (0 : Int32) z gse gte (by rw [show (0 : Int32).toInt = 0 from by decide]; omega) (by exact hI0) (by exact hC0) (by rw [show (0 : Int32).toInt = 0 from by decide, Int.sub_zero, Int.zero_add]) (by rw [show (0 : Int32).toInt = 0 from by decide, Int.sub_zero]) (by rw [show (0 : Int32).toInt = 0 from by decide]; omega) _ _ hP hD hS ls (lv_sub hl [0, 1, 2] rfl)
end
section
theorem zz_end : True := trivial
end
