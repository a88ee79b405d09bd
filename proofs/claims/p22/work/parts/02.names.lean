/-! ===== BEGIN printed: names, fields, word lists, decode rows ===== -/
def RX0 : String := "SewingFrames$Book"
def TX0 : u_T := fun k => match k with
  | 0 => ("SewingFrames$Book", "number", "I", true)
  | 1 => ("SewingFrames$Book", "signatures", "I", false)
  | 2 => ("SewingFrames$Book", "sheets", "I", false)
  | 3 => ("SewingFrames$Book", "edges", "I", false)
  | 4 => ("SewingFrames$Book", "stage", "I", false)
  | 5 => ("SewingFrames$Book", "frame", "I", false)
  | 6 => ("SewingFrames$Book", "cords", "I", false)
  | 7 => ("SewingFrames$Book", "stitches", "I", false)
  | 8 => ("SewingFrames$Book", "wholeSignatures", "I", false)
  | 9 => ("SewingFrames$Book", "stitchesOfNext", "I", false)
  | 10 => ("SewingFrames$Book", "loose", "I", false)
  | 11 => ("SewingFrames$Book", "hoursToDry", "I", false)
  | _ => ("SewingFrames$Book", "gilt", "I", false)
def tyX0 : Nat → FieldType := fun k => match k with
  | 0 => .int
  | 1 => .int
  | 2 => .int
  | 3 => .int
  | 4 => .int
  | 5 => .int
  | 6 => .int
  | 7 => .int
  | 8 => .int
  | 9 => .int
  | 10 => .int
  | 11 => .int
  | _ => .int
abbrev wsX00 : List Cond := u_ws RX0 TX0 13
theorem nmX0 : ∀ a, a < 13 → ∀ b, b < 13 → a ≠ b → (TX0 a).2.1 ≠ (TX0 b).2.1 := by decide +kernel
theorem tyX0_ok : ∀ k, k < 13 → parseFieldDescriptor (TX0 k).2.2.1 = some (tyX0 k) := by decide +kernel
abbrev cX0_init : ByteArray := prog_2_method_1_code
def yX0_init : MethodName := ⟨RX0, "<init>", "(I)V"⟩
abbrev cX0_setTo : ByteArray := prog_2_method_2_code
def yX0_setTo : MethodName := ⟨RX0, "setTo", "(LSewingFrames$Book;)V"⟩
abbrev cX0_begin : ByteArray := prog_2_method_3_code
def yX0_begin : MethodName := ⟨RX0, "begin", "(III)V"⟩
abbrev cX0_mount : ByteArray := prog_2_method_4_code
def yX0_mount : MethodName := ⟨RX0, "mount", "(II)V"⟩
abbrev cX0_undo : ByteArray := prog_2_method_5_code
def yX0_undo : MethodName := ⟨RX0, "undo", "()V"⟩
abbrev cX0_thickness : ByteArray := prog_2_method_6_code
def yX0_thickness : MethodName := ⟨RX0, "thickness", "()I"⟩
abbrev cX0_leavesForAnEdge : ByteArray := prog_2_method_7_code
def yX0_leavesForAnEdge : MethodName := ⟨RX0, "leavesForAnEdge", "()I"⟩
abbrev cX0_stitchesOfSignature : ByteArray := prog_2_method_8_code
def yX0_stitchesOfSignature : MethodName := ⟨RX0, "stitchesOfSignature", "(I)I"⟩
abbrev cX0_stitchesToSew : ByteArray := prog_2_method_9_code
def yX0_stitchesToSew : MethodName := ⟨RX0, "stitchesToSew", "()I"⟩
abbrev cX0_addStitch : ByteArray := prog_2_method_10_code
def yX0_addStitch : MethodName := ⟨RX0, "addStitch", "()Z"⟩
abbrev cX0_isSewn : ByteArray := prog_2_method_11_code
def yX0_isSewn : MethodName := ⟨RX0, "isSewn", "()Z"⟩
abbrev cX0_beginToDry : ByteArray := prog_2_method_12_code
def yX0_beginToDry : MethodName := ⟨RX0, "beginToDry", "()V"⟩
abbrev cX0_dryForAnHour : ByteArray := prog_2_method_13_code
def yX0_dryForAnHour : MethodName := ⟨RX0, "dryForAnHour", "()V"⟩
abbrev cX0_bind : ByteArray := prog_2_method_14_code
def yX0_bind : MethodName := ⟨RX0, "bind", "()V"⟩
abbrev cX0_gildAnEdge : ByteArray := prog_2_method_15_code
def yX0_gildAnEdge : MethodName := ⟨RX0, "gildAnEdge", "()V"⟩
abbrev cX0_value : ByteArray := prog_2_method_16_code
def yX0_value : MethodName := ⟨RX0, "value", "()I"⟩
abbrev cX0_tell : ByteArray := prog_2_method_17_code
def yX0_tell : MethodName := ⟨RX0, "tell", "(I)I"⟩
def RX1 : String := "SewingFrames$Frame"
def TX1 : u_T := fun k => match k with
  | 0 => ("SewingFrames$Frame", "number", "I", true)
  | 1 => ("SewingFrames$Frame", "cords", "I", false)
  | 2 => ("SewingFrames$Frame", "book", "I", false)
  | _ => ("SewingFrames$Frame", "sewn", "I", false)
def tyX1 : Nat → FieldType := fun k => match k with
  | 0 => .int
  | 1 => .int
  | 2 => .int
  | _ => .int
abbrev wsX10 : List Cond := u_ws RX1 TX1 4
theorem nmX1 : ∀ a, a < 4 → ∀ b, b < 4 → a ≠ b → (TX1 a).2.1 ≠ (TX1 b).2.1 := by decide +kernel
theorem tyX1_ok : ∀ k, k < 4 → parseFieldDescriptor (TX1 k).2.2.1 = some (tyX1 k) := by decide +kernel
abbrev cX1_init : ByteArray := prog_3_method_1_code
def yX1_init : MethodName := ⟨RX1, "<init>", "(I)V"⟩
abbrev cX1_setTo : ByteArray := prog_3_method_2_code
def yX1_setTo : MethodName := ⟨RX1, "setTo", "(LSewingFrames$Frame;)V"⟩
def RX2 : String := "SewingFrames$Sewer"
def TX2 : u_T := fun k => match k with
  | 0 => ("SewingFrames$Sewer", "number", "I", true)
  | 1 => ("SewingFrames$Sewer", "speed", "I", false)
  | _ => ("SewingFrames$Sewer", "frame", "I", false)
def tyX2 : Nat → FieldType := fun k => match k with
  | 0 => .int
  | 1 => .int
  | _ => .int
abbrev wsX20 : List Cond := u_ws RX2 TX2 3
theorem nmX2 : ∀ a, a < 3 → ∀ b, b < 3 → a ≠ b → (TX2 a).2.1 ≠ (TX2 b).2.1 := by decide +kernel
theorem tyX2_ok : ∀ k, k < 3 → parseFieldDescriptor (TX2 k).2.2.1 = some (tyX2 k) := by decide +kernel
abbrev cX2_init : ByteArray := prog_4_method_1_code
def yX2_init : MethodName := ⟨RX2, "<init>", "(I)V"⟩
abbrev cX2_setTo : ByteArray := prog_4_method_2_code
def yX2_setTo : MethodName := ⟨RX2, "setTo", "(LSewingFrames$Sewer;)V"⟩
abbrev cX2_tell : ByteArray := prog_4_method_3_code
def yX2_tell : MethodName := ⟨RX2, "tell", "(I)I"⟩
def RX3 : String := "SewingFrames$Workshop"
def TX3 : u_T := fun k => match k with
  | 0 => ("SewingFrames$Workshop", "books", "[LSewingFrames$Book;", true)
  | 1 => ("SewingFrames$Workshop", "sewers", "[LSewingFrames$Sewer;", true)
  | 2 => ("SewingFrames$Workshop", "frames", "[LSewingFrames$Frame;", true)
  | 3 => ("SewingFrames$Workshop", "bookCount", "I", false)
  | 4 => ("SewingFrames$Workshop", "sewerCount", "I", false)
  | 5 => ("SewingFrames$Workshop", "hour", "I", false)
  | 6 => ("SewingFrames$Workshop", "coins", "I", false)
  | 7 => ("SewingFrames$Workshop", "thread", "I", false)
  | 8 => ("SewingFrames$Workshop", "boards", "I", false)
  | 9 => ("SewingFrames$Workshop", "gold", "I", false)
  | 10 => ("SewingFrames$Workshop", "sewn", "I", false)
  | _ => ("SewingFrames$Workshop", "loose", "I", false)
def tyX3 : Nat → FieldType := fun k => match k with
  | 0 => .array (.object "SewingFrames$Book")
  | 1 => .array (.object "SewingFrames$Sewer")
  | 2 => .array (.object "SewingFrames$Frame")
  | 3 => .int
  | 4 => .int
  | 5 => .int
  | 6 => .int
  | 7 => .int
  | 8 => .int
  | 9 => .int
  | 10 => .int
  | _ => .int
abbrev wsX30 : List Cond := u_ws RX3 TX3 12
theorem nmX3 : ∀ a, a < 12 → ∀ b, b < 12 → a ≠ b → (TX3 a).2.1 ≠ (TX3 b).2.1 := by decide +kernel
theorem tyX3_ok : ∀ k, k < 12 → parseFieldDescriptor (TX3 k).2.2.1 = some (tyX3 k) := by decide +kernel
abbrev cX3_init : ByteArray := prog_5_method_1_code
def yX3_init : MethodName := ⟨RX3, "<init>", "()V"⟩
abbrev cX3_setTo : ByteArray := prog_5_method_2_code
def yX3_setTo : MethodName := ⟨RX3, "setTo", "(LSewingFrames$Workshop;)V"⟩
abbrev cX3_bookNumbered : ByteArray := prog_5_method_3_code
def yX3_bookNumbered : MethodName := ⟨RX3, "bookNumbered", "(I)LSewingFrames$Book;"⟩
abbrev cX3_sewerNumbered : ByteArray := prog_5_method_4_code
def yX3_sewerNumbered : MethodName := ⟨RX3, "sewerNumbered", "(I)LSewingFrames$Sewer;"⟩
abbrev cX3_freeBook : ByteArray := prog_5_method_5_code
def yX3_freeBook : MethodName := ⟨RX3, "freeBook", "()LSewingFrames$Book;"⟩
abbrev cX3_freeSewer : ByteArray := prog_5_method_6_code
def yX3_freeSewer : MethodName := ⟨RX3, "freeSewer", "()LSewingFrames$Sewer;"⟩
abbrev cX3_clearFrameOf : ByteArray := prog_5_method_7_code
def yX3_clearFrameOf : MethodName := ⟨RX3, "clearFrameOf", "(LSewingFrames$Book;)V"⟩
abbrev cX3_othersAt : ByteArray := prog_5_method_8_code
def yX3_othersAt : MethodName := ⟨RX3, "othersAt", "(II)I"⟩
abbrev cX3_sittersAt : ByteArray := prog_5_method_9_code
def yX3_sittersAt : MethodName := ⟨RX3, "sittersAt", "(I)I"⟩
abbrev cX3_stitchesAnHour : ByteArray := prog_5_method_10_code
def yX3_stitchesAnHour : MethodName := ⟨RX3, "stitchesAnHour", "(I)I"⟩
abbrev cX3_store : ByteArray := prog_5_method_11_code
def yX3_store : MethodName := ⟨RX3, "store", "(II)I"⟩
abbrev cX3_letHoursGo : ByteArray := prog_5_method_12_code
def yX3_letHoursGo : MethodName := ⟨RX3, "letHoursGo", "(I)I"⟩
abbrev cX3_letAnHourGo : ByteArray := prog_5_method_13_code
def yX3_letAnHourGo : MethodName := ⟨RX3, "letAnHourGo", "()I"⟩
abbrev cX3_gild : ByteArray := prog_5_method_14_code
def yX3_gild : MethodName := ⟨RX3, "gild", "()V"⟩
abbrev cX3_giveBoards : ByteArray := prog_5_method_15_code
def yX3_giveBoards : MethodName := ⟨RX3, "giveBoards", "()V"⟩
abbrev cX3_dry : ByteArray := prog_5_method_16_code
def yX3_dry : MethodName := ⟨RX3, "dry", "()V"⟩
abbrev cX3_sewAt : ByteArray := prog_5_method_17_code
def yX3_sewAt : MethodName := ⟨RX3, "sewAt", "(LSewingFrames$Frame;)V"⟩
abbrev cX3_mountOn : ByteArray := prog_5_method_18_code
def yX3_mountOn : MethodName := ⟨RX3, "mountOn", "(LSewingFrames$Frame;)V"⟩
abbrev cX3_booksAt : ByteArray := prog_5_method_19_code
def yX3_booksAt : MethodName := ⟨RX3, "booksAt", "(I)I"⟩
abbrev cX3_tellOfFrame : ByteArray := prog_5_method_20_code
def yX3_tellOfFrame : MethodName := ⟨RX3, "tellOfFrame", "(LSewingFrames$Frame;I)I"⟩
abbrev cX3_tellOfAll : ByteArray := prog_5_method_21_code
def yX3_tellOfAll : MethodName := ⟨RX3, "tellOfAll", "(I)I"⟩
def RX4 : String := "SewingFrames"
def TX4 : u_T := fun k => match k with
  | 0 => ("SewingFrames", "now", "LSewingFrames$Workshop;", true)
  | _ => ("SewingFrames", "ahead", "LSewingFrames$Workshop;", true)
def tyX4 : Nat → FieldType := fun k => match k with
  | 0 => .object "SewingFrames$Workshop"
  | _ => .object "SewingFrames$Workshop"
abbrev wsX40 : List Cond := u_ws RX4 TX4 2
theorem nmX4 : ∀ a, a < 2 → ∀ b, b < 2 → a ≠ b → (TX4 a).2.1 ≠ (TX4 b).2.1 := by decide +kernel
theorem tyX4_ok : ∀ k, k < 2 → parseFieldDescriptor (TX4 k).2.2.1 = some (tyX4 k) := by decide +kernel
abbrev cX4_init : ByteArray := prog_1_method_1_code
def yX4_init : MethodName := ⟨RX4, "<init>", "()V"⟩
abbrev cX4_order : ByteArray := prog_1_method_2_code
def yX4_order : MethodName := ⟨RX4, "order", "(III)I"⟩
abbrev cX4_unpick : ByteArray := prog_1_method_3_code
def yX4_unpick : MethodName := ⟨RX4, "unpick", "(I)I"⟩
abbrev cX4_sell : ByteArray := prog_1_method_4_code
def yX4_sell : MethodName := ⟨RX4, "sell", "(I)I"⟩
abbrev cX4_told : ByteArray := prog_1_method_5_code
def yX4_told : MethodName := ⟨RX4, "told", "(II)I"⟩
abbrev cX4_hire : ByteArray := prog_1_method_6_code
def yX4_hire : MethodName := ⟨RX4, "hire", "(I)I"⟩
abbrev cX4_seat : ByteArray := prog_1_method_7_code
def yX4_seat : MethodName := ⟨RX4, "seat", "(II)I"⟩
abbrev cX4_string : ByteArray := prog_1_method_9_code
def yX4_string : MethodName := ⟨RX4, "string", "(II)I"⟩
abbrev cX4_frame : ByteArray := prog_1_method_10_code
def yX4_frame : MethodName := ⟨RX4, "frame", "(II)I"⟩
abbrev cX4_buy : ByteArray := prog_1_method_11_code
def yX4_buy : MethodName := ⟨RX4, "buy", "(II)I"⟩
abbrev cX4_count : ByteArray := prog_1_method_12_code
def yX4_count : MethodName := ⟨RX4, "count", "(I)I"⟩
abbrev cX4_pass : ByteArray := prog_1_method_13_code
def yX4_pass : MethodName := ⟨RX4, "pass", "(I)I"⟩
abbrev cX4_foresee : ByteArray := prog_1_method_14_code
def yX4_foresee : MethodName := ⟨RX4, "foresee", "(II)I"⟩
abbrev cX4_until : ByteArray := prog_1_method_15_code
def yX4_until : MethodName := ⟨RX4, "until", "(I)I"⟩
abbrev cX4_next : ByteArray := prog_1_method_16_code
def yX4_next : MethodName := ⟨RX4, "next", "()I"⟩
abbrev cX4_advise : ByteArray := prog_1_method_17_code
def yX4_advise : MethodName := ⟨RX4, "advise", "(I)I"⟩
abbrev cX4_digest : ByteArray := prog_1_method_20_code
def yX4_digest : MethodName := ⟨RX4, "digest", "()J"⟩
abbrev cX4_knownBook : ByteArray := prog_1_method_21_code
def yX4_knownBook : MethodName := ⟨RX4, "knownBook", "(I)LSewingFrames$Book;"⟩
abbrev cX4_knownSewer : ByteArray := prog_1_method_22_code
def yX4_knownSewer : MethodName := ⟨RX4, "knownSewer", "(I)LSewingFrames$Sewer;"⟩
abbrev cX4_knownFrame : ByteArray := prog_1_method_23_code
def yX4_knownFrame : MethodName := ⟨RX4, "knownFrame", "(I)LSewingFrames$Frame;"⟩
abbrev cX4_checkKind : ByteArray := prog_1_method_24_code
def yX4_checkKind : MethodName := ⟨RX4, "checkKind", "(II)V"⟩
abbrev cX4_checkHours : ByteArray := prog_1_method_25_code
def yX4_checkHours : MethodName := ⟨RX4, "checkHours", "(I)V"⟩
abbrev cX4_priceOf : ByteArray := prog_1_method_26_code
def yX4_priceOf : MethodName := ⟨RX4, "priceOf", "(II)I"⟩
abbrev cX4_firstDoneAhead : ByteArray := prog_1_method_27_code
def yX4_firstDoneAhead : MethodName := ⟨RX4, "firstDoneAhead", "()I"⟩
abbrev cX4_sewnAheadWith : ByteArray := prog_1_method_28_code
def yX4_sewnAheadWith : MethodName := ⟨RX4, "sewnAheadWith", "(II)I"⟩
def RX5 : String := "SewingFramesModel"
def TX5 : u_T := fun k => match k with
  | _ => ("", "", "", false)
def tyX5 : Nat → FieldType := fun k => match k with
  | _ => .int
abbrev wsX50 : List Cond := u_ws RX5 TX5 0
theorem nmX5 : ∀ a, a < 0 → ∀ b, b < 0 → a ≠ b → (TX5 a).2.1 ≠ (TX5 b).2.1 := by decide +kernel
theorem tyX5_ok : ∀ k, k < 0 → parseFieldDescriptor (TX5 k).2.2.1 = some (tyX5 k) := by decide +kernel
def RJ9 : String := "java/lang/Math"
def TJ9 : u_T := fun k => match k with
  | _ => ("", "", "", false)
def tyJ9 : Nat → FieldType := fun k => match k with
  | _ => .int
abbrev wsJ90 : List Cond := u_ws RJ9 TJ9 0
theorem nmJ9 : ∀ a, a < 0 → ∀ b, b < 0 → a ≠ b → (TJ9 a).2.1 ≠ (TJ9 b).2.1 := by decide +kernel
theorem tyJ9_ok : ∀ k, k < 0 → parseFieldDescriptor (TJ9 k).2.2.1 = some (tyJ9 k) := by decide +kernel
abbrev cJ9_max_7cf53 : ByteArray := prog_12_method_65_code
def yJ9_max_7cf53 : MethodName := ⟨RJ9, "max", "(II)I"⟩
abbrev cJ9_min_7cf53 : ByteArray := prog_12_method_69_code
def yJ9_min_7cf53 : MethodName := ⟨RJ9, "min", "(II)I"⟩
def RJ0 : String := "java/lang/String"
def TJ0 : u_T := fun k => match k with
  | _ => ("", "", "", false)
def tyJ0 : Nat → FieldType := fun k => match k with
  | _ => .int
abbrev wsJ00 : List Cond := u_ws RJ0 TJ0 0
theorem nmJ0 : ∀ a, a < 0 → ∀ b, b < 0 → a ≠ b → (TJ0 a).2.1 ≠ (TJ0 b).2.1 := by decide +kernel
theorem tyJ0_ok : ∀ k, k < 0 → parseFieldDescriptor (TJ0 k).2.2.1 = some (tyJ0 k) := by decide +kernel
def RL : String := "SewingFramesLaw"
def wsJ9_max_7cf53 : List Cond := .code yJ9_max_7cf53 cJ9_max_7cf53 2 (some .int) :: ([])
def wsJ9_min_7cf53 : List Cond := .code yJ9_min_7cf53 cJ9_min_7cf53 2 (some .int) :: ([])
theorem inJ9 : ∀ w ∈ wsJ90, w ∈ lw_tbl := by decide +kernel
theorem inJ0 : ∀ w ∈ wsJ00, w ∈ lw_tbl := by decide +kernel
abbrev vwCl : List vw_C := [(RX0, TX0, 13), (RX1, TX1, 4), (RX2, TX2, 3), (RX3, TX3, 12), (RX4, TX4, 2)]

theorem dJ9_max_7cf53_0 : decode cJ9_max_7cf53 0 = .ok (.iload_n 0, 1) := by decide +kernel
theorem dJ9_max_7cf53_1 : decode cJ9_max_7cf53 1 = .ok (.iload_n 1, 1) := by decide +kernel
theorem dJ9_max_7cf53_2 : decode cJ9_max_7cf53 2 = .ok (.if_icmp .lt 7, 3) := by decide +kernel
theorem dJ9_max_7cf53_5 : decode cJ9_max_7cf53 5 = .ok (.iload_n 0, 1) := by decide +kernel
theorem dJ9_max_7cf53_6 : decode cJ9_max_7cf53 6 = .ok (.goto 4, 3) := by decide +kernel
theorem dJ9_max_7cf53_9 : decode cJ9_max_7cf53 9 = .ok (.iload_n 1, 1) := by decide +kernel
theorem dJ9_max_7cf53_10 : decode cJ9_max_7cf53 10 = .ok (.ireturn, 1) := by decide +kernel
theorem dJ9_min_7cf53_0 : decode cJ9_min_7cf53 0 = .ok (.iload_n 0, 1) := by decide +kernel
theorem dJ9_min_7cf53_1 : decode cJ9_min_7cf53 1 = .ok (.iload_n 1, 1) := by decide +kernel
theorem dJ9_min_7cf53_2 : decode cJ9_min_7cf53 2 = .ok (.if_icmp .gt 7, 3) := by decide +kernel
theorem dJ9_min_7cf53_5 : decode cJ9_min_7cf53 5 = .ok (.iload_n 0, 1) := by decide +kernel
theorem dJ9_min_7cf53_6 : decode cJ9_min_7cf53 6 = .ok (.goto 4, 3) := by decide +kernel
theorem dJ9_min_7cf53_9 : decode cJ9_min_7cf53 9 = .ok (.iload_n 1, 1) := by decide +kernel
theorem dJ9_min_7cf53_10 : decode cJ9_min_7cf53 10 = .ok (.ireturn, 1) := by decide +kernel
