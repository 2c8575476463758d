abbrev RX0 : String := "TextPatterns$Row"
def TX0 : u_T := fun k => match k with
  | 0 => ("TextPatterns$Row", "bytes", "[B", true)
  | _ => ("TextPatterns$Row", "length", "I", false)
def tyX0 : Nat → FieldType := fun k => match k with
  | 0 => .array .byte
  | _ => .int
theorem nmX0 : ∀ a, a < 2 → ∀ b, b < 2 → a ≠ b → (TX0 a).2.1 ≠ (TX0 b).2.1 := by decide +kernel
theorem tyX0_ok : ∀ k, k < 2 → parseFieldDescriptor (TX0 k).2.2.1 = some (tyX0 k) := by decide +kernel
theorem inX0 : ∀ w ∈ u_ws RX0 TX0 2, w ∈ WALL := by decide +kernel
abbrev RX1 : String := "TextPatterns$Sets"
def TX1 : u_T := fun k => match k with
  | _ => ("TextPatterns$Sets", "words", "[J", true)
def tyX1 : Nat → FieldType := fun k => match k with
  | _ => .array .long
theorem nmX1 : ∀ a, a < 1 → ∀ b, b < 1 → a ≠ b → (TX1 a).2.1 ≠ (TX1 b).2.1 := by decide +kernel
theorem tyX1_ok : ∀ k, k < 1 → parseFieldDescriptor (TX1 k).2.2.1 = some (tyX1 k) := by decide +kernel
theorem inX1 : ∀ w ∈ u_ws RX1 TX1 1, w ∈ WALL := by decide +kernel
abbrev RX2 : String := "TextPatterns$Items"
def TX2 : u_T := fun k => match k with
  | 0 => ("TextPatterns$Items", "kinds", "[I", true)
  | 1 => ("TextPatterns$Items", "ones", "[I", true)
  | 2 => ("TextPatterns$Items", "twos", "[I", true)
  | 3 => ("TextPatterns$Items", "sets", "LTextPatterns$Sets;", true)
  | 4 => ("TextPatterns$Items", "states", "[I", true)
  | 5 => ("TextPatterns$Items", "count", "I", false)
  | _ => ("TextPatterns$Items", "captureCount", "I", false)
def tyX2 : Nat → FieldType := fun k => match k with
  | 0 => .array .int
  | 1 => .array .int
  | 2 => .array .int
  | 3 => .object "TextPatterns$Sets"
  | 4 => .array .int
  | 5 => .int
  | _ => .int
theorem nmX2 : ∀ a, a < 7 → ∀ b, b < 7 → a ≠ b → (TX2 a).2.1 ≠ (TX2 b).2.1 := by decide +kernel
theorem tyX2_ok : ∀ k, k < 7 → parseFieldDescriptor (TX2 k).2.2.1 = some (tyX2 k) := by decide +kernel
theorem inX2 : ∀ w ∈ u_ws RX2 TX2 7, w ∈ WALL := by decide +kernel
abbrev RX3 : String := "TextPatterns$Matcher"
def TX3 : u_T := fun k => match k with
  | 0 => ("TextPatterns$Matcher", "choiceItems", "[I", true)
  | 1 => ("TextPatterns$Matcher", "choiceLeast", "[I", true)
  | 2 => ("TextPatterns$Matcher", "choicePlaces", "[I", true)
  | 3 => ("TextPatterns$Matcher", "starts", "[I", true)
  | 4 => ("TextPatterns$Matcher", "lengths", "[I", true)
  | 5 => ("TextPatterns$Matcher", "choices", "I", false)
  | 6 => ("TextPatterns$Matcher", "item", "I", false)
  | 7 => ("TextPatterns$Matcher", "place", "I", false)
  | _ => ("TextPatterns$Matcher", "looks", "I", false)
def tyX3 : Nat → FieldType := fun k => match k with
  | 0 => .array .int
  | 1 => .array .int
  | 2 => .array .int
  | 3 => .array .int
  | 4 => .array .int
  | 5 => .int
  | 6 => .int
  | 7 => .int
  | _ => .int
theorem nmX3 : ∀ a, a < 9 → ∀ b, b < 9 → a ≠ b → (TX3 a).2.1 ≠ (TX3 b).2.1 := by decide +kernel
theorem tyX3_ok : ∀ k, k < 9 → parseFieldDescriptor (TX3 k).2.2.1 = some (tyX3 k) := by decide +kernel
theorem inX3 : ∀ w ∈ u_ws RX3 TX3 9, w ∈ WALL := by decide +kernel
abbrev RX4 : String := "TextPatterns"
def TX4 : u_T := fun k => match k with
  | 0 => ("TextPatterns", "text", "LTextPatterns$Row;", true)
  | 1 => ("TextPatterns", "pattern", "LTextPatterns$Row;", true)
  | 2 => ("TextPatterns", "replacement", "LTextPatterns$Row;", true)
  | 3 => ("TextPatterns", "output", "LTextPatterns$Row;", true)
  | 4 => ("TextPatterns", "items", "LTextPatterns$Items;", true)
  | 5 => ("TextPatterns", "matcher", "LTextPatterns$Matcher;", true)
  | 6 => ("TextPatterns", "lone", "LTextPatterns$Sets;", true)
  | 7 => ("TextPatterns", "matched", "Z", false)
  | 8 => ("TextPatterns", "matchFirst", "I", false)
  | 9 => ("TextPatterns", "matchLast", "I", false)
  | 10 => ("TextPatterns", "nextPlace", "I", false)
  | 11 => ("TextPatterns", "nextEnd", "I", false)
  | _ => ("TextPatterns", "nextOver", "Z", false)
def tyX4 : Nat → FieldType := fun k => match k with
  | 0 => .object "TextPatterns$Row"
  | 1 => .object "TextPatterns$Row"
  | 2 => .object "TextPatterns$Row"
  | 3 => .object "TextPatterns$Row"
  | 4 => .object "TextPatterns$Items"
  | 5 => .object "TextPatterns$Matcher"
  | 6 => .object "TextPatterns$Sets"
  | 7 => .boolean
  | 8 => .int
  | 9 => .int
  | 10 => .int
  | 11 => .int
  | _ => .boolean
theorem nmX4 : ∀ a, a < 13 → ∀ b, b < 13 → a ≠ b → (TX4 a).2.1 ≠ (TX4 b).2.1 := by decide +kernel
theorem tyX4_ok : ∀ k, k < 13 → parseFieldDescriptor (TX4 k).2.2.1 = some (tyX4 k) := by decide +kernel
theorem inX4 : ∀ w ∈ u_ws RX4 TX4 13, w ∈ WALL := by decide +kernel
abbrev RX5 : String := "TextPatternsModel"
def TX5 : u_T := fun k => match k with
  | 0 => ("TextPatternsModel", "rows", "[B", true)
  | 1 => ("TextPatternsModel", "sizes", "[I", true)
  | 2 => ("TextPatternsModel", "made", "[B", true)
  | 3 => ("TextPatternsModel", "madeSize", "I", false)
  | 4 => ("TextPatternsModel", "begins", "[I", true)
  | 5 => ("TextPatternsModel", "places", "[I", true)
  | 6 => ("TextPatternsModel", "kinds", "[I", true)
  | 7 => ("TextPatternsModel", "nexts", "[I", true)
  | 8 => ("TextPatternsModel", "choices", "[I", true)
  | 9 => ("TextPatternsModel", "leasts", "[I", true)
  | 10 => ("TextPatternsModel", "depth", "I", false)
  | 11 => ("TextPatternsModel", "end", "I", false)
  | 12 => ("TextPatternsModel", "captureBegins", "[I", true)
  | 13 => ("TextPatternsModel", "captureLengths", "[I", true)
  | 14 => ("TextPatternsModel", "captureCount", "I", false)
  | 15 => ("TextPatternsModel", "looks", "I", false)
  | 16 => ("TextPatternsModel", "trouble", "I", false)
  | 17 => ("TextPatternsModel", "found", "Z", false)
  | 18 => ("TextPatternsModel", "first", "I", false)
  | 19 => ("TextPatternsModel", "from", "I", false)
  | _ => ("TextPatternsModel", "ended", "I", false)
def tyX5 : Nat → FieldType := fun k => match k with
  | 0 => .array .byte
  | 1 => .array .int
  | 2 => .array .byte
  | 3 => .int
  | 4 => .array .int
  | 5 => .array .int
  | 6 => .array .int
  | 7 => .array .int
  | 8 => .array .int
  | 9 => .array .int
  | 10 => .int
  | 11 => .int
  | 12 => .array .int
  | 13 => .array .int
  | 14 => .int
  | 15 => .int
  | 16 => .int
  | 17 => .boolean
  | 18 => .int
  | 19 => .int
  | _ => .int
theorem nmX5 : ∀ a, a < 21 → ∀ b, b < 21 → a ≠ b → (TX5 a).2.1 ≠ (TX5 b).2.1 := by decide +kernel
theorem tyX5_ok : ∀ k, k < 21 → parseFieldDescriptor (TX5 k).2.2.1 = some (tyX5 k) := by decide +kernel
theorem inX5 : ∀ w ∈ u_ws RX5 TX5 21, w ∈ WALL := by decide +kernel
abbrev vwCl : List vw_C := [(RX0, TX0, 2), (RX1, TX1, 1), (RX2, TX2, 7), (RX3, TX3, 9), (RX4, TX4, 13), (RX5, TX5, 21)]
abbrev cX0_length : ByteArray := prog_4_method_2_code
abbrev yX0_length : MethodName := ⟨"TextPatterns$Row", "length", "()I"⟩
abbrev wsX0_length : List Cond := .code yX0_length cX0_length 1 (some .int) :: WALL
abbrev cX0_room : ByteArray := prog_4_method_3_code
abbrev yX0_room : MethodName := ⟨"TextPatterns$Row", "room", "()I"⟩
abbrev wsX0_room : List Cond := .code yX0_room cX0_room 1 (some .int) :: WALL
abbrev cX0_empty : ByteArray := prog_4_method_4_code
abbrev yX0_empty : MethodName := ⟨"TextPatterns$Row", "empty", "()V"⟩
abbrev wsX0_empty : List Cond := .code yX0_empty cX0_empty 1 none :: WALL
abbrev cX0_add : ByteArray := prog_4_method_5_code
abbrev yX0_add : MethodName := ⟨"TextPatterns$Row", "add", "(I)V"⟩
abbrev wsX0_add : List Cond := .code yX0_add cX0_add 2 none :: WALL
abbrev cX0_at : ByteArray := prog_4_method_6_code
abbrev yX0_at : MethodName := ⟨"TextPatterns$Row", "at", "(I)I"⟩
abbrev wsX0_at : List Cond := .code yX0_at cX0_at 2 (some .int) :: WALL
abbrev cX1_spanBits : ByteArray := prog_5_method_9_code
abbrev yX1_spanBits : MethodName := ⟨"TextPatterns$Sets", "spanBits", "(III)J"⟩
abbrev wsX1_spanBits : List Cond := .code yX1_spanBits cX1_spanBits 6 (some .long) :: WALL
abbrev cX1_holds : ByteArray := prog_5_method_2_code
abbrev yX1_holds : MethodName := ⟨"TextPatterns$Sets", "holds", "(II)Z"⟩
abbrev wsX1_holds : List Cond := .code yX1_holds cX1_holds 4 (some .boolean) :: WALL
abbrev cX1_addBits : ByteArray := prog_5_method_10_code
abbrev yX1_addBits : MethodName := ⟨"TextPatterns$Sets", "addBits", "(IIJ)V"⟩
abbrev wsX1_addBits : List Cond := .code yX1_addBits cX1_addBits 6 none :: WALL
abbrev cX1_empty : ByteArray := prog_5_method_11_code
abbrev yX1_empty : MethodName := ⟨"TextPatterns$Sets", "empty", "(I)V"⟩
abbrev wsX1_empty : List Cond := .code yX1_empty cX1_empty 4 none :: WALL
abbrev cX1_turn : ByteArray := prog_5_method_12_code
abbrev yX1_turn : MethodName := ⟨"TextPatterns$Sets", "turn", "(I)V"⟩
abbrev wsX1_turn : List Cond := .code yX1_turn cX1_turn 4 none :: WALL
abbrev cX1_addSpan : ByteArray := prog_5_method_8_code
abbrev yX1_addSpan : MethodName := ⟨"TextPatterns$Sets", "addSpan", "(III)V"⟩
abbrev wsX1_addSpan : List Cond := .code yX1_addSpan cX1_addSpan 5 none :: WALL
abbrev cX1_addNamed : ByteArray := prog_5_method_7_code
abbrev yX1_addNamed : MethodName := ⟨"TextPatterns$Sets", "addNamed", "(II)V"⟩
abbrev wsX1_addNamed : List Cond := .code yX1_addNamed cX1_addNamed 10 none :: WALL
abbrev cX1_readNamed : ByteArray := prog_5_method_4_code
abbrev yX1_readNamed : MethodName := ⟨"TextPatterns$Sets", "readNamed", "(III)I"⟩
abbrev wsX1_readNamed : List Cond := .code yX1_readNamed cX1_readNamed 4 (some .int) :: WALL
abbrev cX1_closingOf : ByteArray := prog_5_method_6_code
abbrev yX1_closingOf : MethodName := ⟨"TextPatterns$Sets", "closingOf", "(LTextPatterns$Row;I)I"⟩
abbrev wsX1_closingOf : List Cond := .code yX1_closingOf cX1_closingOf 4 (some .int) :: WALL
abbrev cX1_readSet : ByteArray := prog_5_method_5_code
abbrev yX1_readSet : MethodName := ⟨"TextPatterns$Sets", "readSet", "(ILTextPatterns$Row;I)I"⟩
abbrev wsX1_readSet : List Cond := .code yX1_readSet cX1_readSet 9 (some .int) :: WALL
abbrev cX1_readSingle : ByteArray := prog_5_method_3_code
abbrev yX1_readSingle : MethodName := ⟨"TextPatterns$Sets", "readSingle", "(ILTextPatterns$Row;I)I"⟩
abbrev wsX1_readSingle : List Cond := .code yX1_readSingle cX1_readSingle 5 (some .int) :: WALL
abbrev cX2_captureCount : ByteArray := prog_2_method_2_code
abbrev yX2_captureCount : MethodName := ⟨"TextPatterns$Items", "captureCount", "()I"⟩
abbrev wsX2_captureCount : List Cond := .code yX2_captureCount cX2_captureCount 1 (some .int) :: WALL
abbrev cX2_kind : ByteArray := prog_2_method_3_code
abbrev yX2_kind : MethodName := ⟨"TextPatterns$Items", "kind", "(I)I"⟩
abbrev wsX2_kind : List Cond := .code yX2_kind cX2_kind 2 (some .int) :: WALL
abbrev cX2_one : ByteArray := prog_2_method_4_code
abbrev yX2_one : MethodName := ⟨"TextPatterns$Items", "one", "(I)I"⟩
abbrev wsX2_one : List Cond := .code yX2_one cX2_one 2 (some .int) :: WALL
abbrev cX2_two : ByteArray := prog_2_method_5_code
abbrev yX2_two : MethodName := ⟨"TextPatterns$Items", "two", "(I)I"⟩
abbrev wsX2_two : List Cond := .code yX2_two cX2_two 2 (some .int) :: WALL
abbrev cX2_latestOpen : ByteArray := prog_2_method_12_code
abbrev yX2_latestOpen : MethodName := ⟨"TextPatterns$Items", "latestOpen", "()I"⟩
abbrev wsX2_latestOpen : List Cond := .code yX2_latestOpen cX2_latestOpen 2 (some .int) :: WALL
abbrev cX2_add : ByteArray := prog_2_method_16_code
abbrev yX2_add : MethodName := ⟨"TextPatterns$Items", "add", "(III)V"⟩
abbrev wsX2_add : List Cond := .code yX2_add cX2_add 4 none :: WALL
abbrev cX2_kindAt : ByteArray := prog_2_method_7_code
abbrev yX2_kindAt : MethodName := ⟨"TextPatterns$Items", "kindAt", "(LTextPatterns$Row;I)I"⟩
abbrev wsX2_kindAt : List Cond := .code yX2_kindAt cX2_kindAt 4 (some .int) :: WALL
abbrev cX2_readOpening : ByteArray := prog_2_method_10_code
abbrev yX2_readOpening : MethodName := ⟨"TextPatterns$Items", "readOpening", "(II)I"⟩
abbrev wsX2_readOpening : List Cond := .code yX2_readOpening cX2_readOpening 3 (some .int) :: WALL
abbrev cX2_readClosing : ByteArray := prog_2_method_11_code
abbrev yX2_readClosing : MethodName := ⟨"TextPatterns$Items", "readClosing", "(I)I"⟩
abbrev wsX2_readClosing : List Cond := .code yX2_readClosing cX2_readClosing 3 (some .int) :: WALL
abbrev cX2_readSame : ByteArray := prog_2_method_13_code
abbrev yX2_readSame : MethodName := ⟨"TextPatterns$Items", "readSame", "(II)I"⟩
abbrev wsX2_readSame : List Cond := .code yX2_readSame cX2_readSame 3 (some .int) :: WALL
abbrev cX2_readPair : ByteArray := prog_2_method_14_code
abbrev yX2_readPair : MethodName := ⟨"TextPatterns$Items", "readPair", "(LTextPatterns$Row;I)I"⟩
abbrev wsX2_readPair : List Cond := .code yX2_readPair cX2_readPair 3 (some .int) :: WALL
abbrev cX2_readBorder : ByteArray := prog_2_method_15_code
abbrev yX2_readBorder : MethodName := ⟨"TextPatterns$Items", "readBorder", "(LTextPatterns$Row;I)I"⟩
abbrev wsX2_readBorder : List Cond := .code yX2_readBorder cX2_readBorder 4 (some .int) :: WALL
abbrev cX2_readRepeated : ByteArray := prog_2_method_8_code
abbrev yX2_readRepeated : MethodName := ⟨"TextPatterns$Items", "readRepeated", "(LTextPatterns$Row;I)I"⟩
abbrev wsX2_readRepeated : List Cond := .code yX2_readRepeated cX2_readRepeated 4 (some .int) :: WALL
abbrev cX2_readSpecial : ByteArray := prog_2_method_9_code
abbrev yX2_readSpecial : MethodName := ⟨"TextPatterns$Items", "readSpecial", "(ILTextPatterns$Row;I)I"⟩
abbrev wsX2_readSpecial : List Cond := .code yX2_readSpecial cX2_readSpecial 4 (some .int) :: WALL
abbrev cX2_read : ByteArray := prog_2_method_6_code
abbrev yX2_read : MethodName := ⟨"TextPatterns$Items", "read", "(LTextPatterns$Row;I)V"⟩
abbrev wsX2_read : List Cond := .code yX2_read cX2_read 6 none :: WALL
abbrev cX3_forgetLooks : ByteArray := prog_3_method_2_code
abbrev yX3_forgetLooks : MethodName := ⟨"TextPatterns$Matcher", "forgetLooks", "()V"⟩
abbrev wsX3_forgetLooks : List Cond := .code yX3_forgetLooks cX3_forgetLooks 1 none :: WALL
abbrev cX3_looksMade : ByteArray := prog_3_method_3_code
abbrev yX3_looksMade : MethodName := ⟨"TextPatterns$Matcher", "looksMade", "()I"⟩
abbrev wsX3_looksMade : List Cond := .code yX3_looksMade cX3_looksMade 1 (some .int) :: WALL
abbrev cX3_end : ByteArray := prog_3_method_4_code
abbrev yX3_end : MethodName := ⟨"TextPatterns$Matcher", "end", "()I"⟩
abbrev wsX3_end : List Cond := .code yX3_end cX3_end 1 (some .int) :: WALL
abbrev cX3_startOf : ByteArray := prog_3_method_5_code
abbrev yX3_startOf : MethodName := ⟨"TextPatterns$Matcher", "startOf", "(I)I"⟩
abbrev wsX3_startOf : List Cond := .code yX3_startOf cX3_startOf 2 (some .int) :: WALL
abbrev cX3_lengthOf : ByteArray := prog_3_method_6_code
abbrev yX3_lengthOf : MethodName := ⟨"TextPatterns$Matcher", "lengthOf", "(I)I"⟩
abbrev wsX3_lengthOf : List Cond := .code yX3_lengthOf cX3_lengthOf 2 (some .int) :: WALL
abbrev cX3_mayLook : ByteArray := prog_3_method_17_code
abbrev yX3_mayLook : MethodName := ⟨"TextPatterns$Matcher", "mayLook", "()Z"⟩
abbrev wsX3_mayLook : List Cond := .code yX3_mayLook cX3_mayLook 1 (some .boolean) :: WALL
abbrev cX3_addChoice : ByteArray := prog_3_method_18_code
abbrev yX3_addChoice : MethodName := ⟨"TextPatterns$Matcher", "addChoice", "(II)V"⟩
abbrev wsX3_addChoice : List Cond := .code yX3_addChoice cX3_addChoice 3 none :: WALL
abbrev cX3_setStart : ByteArray := prog_3_method_11_code
abbrev yX3_setStart : MethodName := ⟨"TextPatterns$Matcher", "setStart", "(I)V"⟩
abbrev wsX3_setStart : List Cond := .code yX3_setStart cX3_setStart 2 none :: WALL
abbrev cX3_setLength : ByteArray := prog_3_method_12_code
abbrev yX3_setLength : MethodName := ⟨"TextPatterns$Matcher", "setLength", "(I)V"⟩
abbrev wsX3_setLength : List Cond := .code yX3_setLength cX3_setLength 2 none :: WALL
abbrev cX3_look : ByteArray := prog_3_method_16_code
abbrev yX3_look : MethodName := ⟨"TextPatterns$Matcher", "look", "(LTextPatterns$Items;LTextPatterns$Row;II)I"⟩
abbrev wsX3_look : List Cond := .code yX3_look cX3_look 6 (some .int) :: WALL
abbrev cX3_lookAtBorder : ByteArray := prog_3_method_15_code
abbrev yX3_lookAtBorder : MethodName := ⟨"TextPatterns$Matcher", "lookAtBorder", "(LTextPatterns$Items;LTextPatterns$Row;)I"⟩
abbrev wsX3_lookAtBorder : List Cond := .code yX3_lookAtBorder cX3_lookAtBorder 6 (some .int) :: WALL
abbrev cX3_takeSame : ByteArray := prog_3_method_13_code
abbrev yX3_takeSame : MethodName := ⟨"TextPatterns$Matcher", "takeSame", "(LTextPatterns$Row;II)I"⟩
abbrev wsX3_takeSame : List Cond := .code yX3_takeSame cX3_takeSame 5 (some .int) :: WALL
abbrev cX3_takePair : ByteArray := prog_3_method_14_code
abbrev yX3_takePair : MethodName := ⟨"TextPatterns$Matcher", "takePair", "(LTextPatterns$Row;II)I"⟩
abbrev wsX3_takePair : List Cond := .code yX3_takePair cX3_takePair 8 (some .int) :: WALL
abbrev cX3_takeSpecial : ByteArray := prog_3_method_10_code
abbrev yX3_takeSpecial : MethodName := ⟨"TextPatterns$Matcher", "takeSpecial", "(LTextPatterns$Items;LTextPatterns$Row;I)I"⟩
abbrev wsX3_takeSpecial : List Cond := .code yX3_takeSpecial cX3_takeSpecial 4 (some .int) :: WALL
abbrev cX3_takeRepeated : ByteArray := prog_3_method_9_code
abbrev yX3_takeRepeated : MethodName := ⟨"TextPatterns$Matcher", "takeRepeated", "(LTextPatterns$Items;LTextPatterns$Row;I)I"⟩
abbrev wsX3_takeRepeated : List Cond := .code yX3_takeRepeated cX3_takeRepeated 8 (some .int) :: WALL
abbrev cX3_goOn : ByteArray := prog_3_method_8_code
abbrev yX3_goOn : MethodName := ⟨"TextPatterns$Matcher", "goOn", "(LTextPatterns$Items;LTextPatterns$Row;)I"⟩
abbrev wsX3_goOn : List Cond := .code yX3_goOn cX3_goOn 6 (some .int) :: WALL
abbrev cX3_changeChoice : ByteArray := prog_3_method_20_code
abbrev yX3_changeChoice : MethodName := ⟨"TextPatterns$Matcher", "changeChoice", "(LTextPatterns$Items;LTextPatterns$Row;I)I"⟩
abbrev wsX3_changeChoice : List Cond := .code yX3_changeChoice cX3_changeChoice 7 (some .int) :: WALL
abbrev cX3_tryNextWay : ByteArray := prog_3_method_19_code
abbrev yX3_tryNextWay : MethodName := ⟨"TextPatterns$Matcher", "tryNextWay", "(LTextPatterns$Items;LTextPatterns$Row;)I"⟩
abbrev wsX3_tryNextWay : List Cond := .code yX3_tryNextWay cX3_tryNextWay 5 (some .int) :: WALL
abbrev cX3_matchAt : ByteArray := prog_3_method_7_code
abbrev yX3_matchAt : MethodName := ⟨"TextPatterns$Matcher", "matchAt", "(LTextPatterns$Items;LTextPatterns$Row;I)I"⟩
abbrev wsX3_matchAt : List Cond := .code yX3_matchAt cX3_matchAt 6 (some .int) :: WALL
abbrev cX4_rowOf : ByteArray := prog_1_method_16_code
abbrev yX4_rowOf : MethodName := ⟨"TextPatterns", "rowOf", "(I)LTextPatterns$Row;"⟩
abbrev wsX4_rowOf : List Cond := .code yX4_rowOf cX4_rowOf 2 (some (.object "TextPatterns$Row")) :: WALL
abbrev cX4_isFixed : ByteArray := prog_1_method_17_code
abbrev yX4_isFixed : MethodName := ⟨"TextPatterns", "isFixed", "()Z"⟩
abbrev wsX4_isFixed : List Cond := .code yX4_isFixed cX4_isFixed 1 (some .boolean) :: WALL
abbrev cX4_addByte : ByteArray := prog_1_method_24_code
abbrev yX4_addByte : MethodName := ⟨"TextPatterns", "addByte", "(I)I"⟩
abbrev wsX4_addByte : List Cond := .code yX4_addByte cX4_addByte 2 (some .int) :: WALL
abbrev cX4_addText : ByteArray := prog_1_method_23_code
abbrev yX4_addText : MethodName := ⟨"TextPatterns", "addText", "(II)I"⟩
abbrev wsX4_addText : List Cond := .code yX4_addText cX4_addText 5 (some .int) :: WALL
abbrev cX4_addNumber : ByteArray := prog_1_method_22_code
abbrev yX4_addNumber : MethodName := ⟨"TextPatterns", "addNumber", "(I)I"⟩
abbrev wsX4_addNumber : List Cond := .code yX4_addNumber cX4_addNumber 4 (some .int) :: WALL
abbrev cX4_addMarked : ByteArray := prog_1_method_21_code
abbrev yX4_addMarked : MethodName := ⟨"TextPatterns", "addMarked", "(III)I"⟩
abbrev wsX4_addMarked : List Cond := .code yX4_addMarked cX4_addMarked 7 (some .int) :: WALL
abbrev cX4_addReplacement : ByteArray := prog_1_method_20_code
abbrev yX4_addReplacement : MethodName := ⟨"TextPatterns", "addReplacement", "(II)I"⟩
abbrev wsX4_addReplacement : List Cond := .code yX4_addReplacement cX4_addReplacement 6 (some .int) :: WALL
abbrev cX4_replaceMatches : ByteArray := prog_1_method_19_code
abbrev yX4_replaceMatches : MethodName := ⟨"TextPatterns", "replaceMatches", "(IZ)I"⟩
abbrev wsX4_replaceMatches : List Cond := .code yX4_replaceMatches cX4_replaceMatches 9 (some .int) :: WALL
abbrev cX4_search : ByteArray := prog_1_method_18_code
abbrev yX4_search : MethodName := ⟨"TextPatterns", "search", "(III)I"⟩
abbrev wsX4_search : List Cond := .code yX4_search cX4_search 6 (some .int) :: WALL
abbrev cX4_type : ByteArray := prog_1_method_2_code
abbrev yX4_type : MethodName := ⟨"TextPatterns", "type", "(IJI)I"⟩
abbrev wsX4_type : List Cond := .code yX4_type cX4_type 7 (some .int) :: WALL
abbrev cX4_clear : ByteArray := prog_1_method_3_code
abbrev yX4_clear : MethodName := ⟨"TextPatterns", "clear", "(I)I"⟩
abbrev wsX4_clear : List Cond := .code yX4_clear cX4_clear 4 (some .int) :: WALL
abbrev cX4_find : ByteArray := prog_1_method_4_code
abbrev yX4_find : MethodName := ⟨"TextPatterns", "find", "(I)I"⟩
abbrev wsX4_find : List Cond := .code yX4_find cX4_find 3 (some .int) :: WALL
abbrev cX4_begin : ByteArray := prog_1_method_5_code
abbrev yX4_begin : MethodName := ⟨"TextPatterns", "begin", "()V"⟩
abbrev wsX4_begin : List Cond := .code yX4_begin cX4_begin 1 none :: WALL
abbrev cX4_next : ByteArray := prog_1_method_6_code
abbrev yX4_next : MethodName := ⟨"TextPatterns", "next", "()I"⟩
abbrev wsX4_next : List Cond := .code yX4_next cX4_next 2 (some .int) :: WALL
abbrev cX4_replace : ByteArray := prog_1_method_7_code
abbrev yX4_replace : MethodName := ⟨"TextPatterns", "replace", "(I)I"⟩
abbrev wsX4_replace : List Cond := .code yX4_replace cX4_replace 4 (some .int) :: WALL
abbrev cX4_looks : ByteArray := prog_1_method_8_code
abbrev yX4_looks : MethodName := ⟨"TextPatterns", "looks", "()I"⟩
abbrev wsX4_looks : List Cond := .code yX4_looks cX4_looks 1 (some .int) :: WALL
abbrev cX4_first : ByteArray := prog_1_method_9_code
abbrev yX4_first : MethodName := ⟨"TextPatterns", "first", "()I"⟩
abbrev wsX4_first : List Cond := .code yX4_first cX4_first 1 (some .int) :: WALL
abbrev cX4_last : ByteArray := prog_1_method_10_code
abbrev yX4_last : MethodName := ⟨"TextPatterns", "last", "()I"⟩
abbrev wsX4_last : List Cond := .code yX4_last cX4_last 1 (some .int) :: WALL
abbrev cX4_captures : ByteArray := prog_1_method_11_code
abbrev yX4_captures : MethodName := ⟨"TextPatterns", "captures", "()I"⟩
abbrev wsX4_captures : List Cond := .code yX4_captures cX4_captures 1 (some .int) :: WALL
abbrev cX4_capture : ByteArray := prog_1_method_12_code
abbrev yX4_capture : MethodName := ⟨"TextPatterns", "capture", "(II)I"⟩
abbrev wsX4_capture : List Cond := .code yX4_capture cX4_capture 3 (some .int) :: WALL
abbrev cX4_size : ByteArray := prog_1_method_13_code
abbrev yX4_size : MethodName := ⟨"TextPatterns", "size", "()I"⟩
abbrev wsX4_size : List Cond := .code yX4_size cX4_size 1 (some .int) :: WALL
abbrev cX4_result : ByteArray := prog_1_method_14_code
abbrev yX4_result : MethodName := ⟨"TextPatterns", "result", "(I)I"⟩
abbrev wsX4_result : List Cond := .code yX4_result cX4_result 3 (some .int) :: WALL
abbrev cX4_single : ByteArray := prog_1_method_15_code
abbrev yX4_single : MethodName := ⟨"TextPatterns", "single", "(I)I"⟩
abbrev wsX4_single : List Cond := .code yX4_single cX4_single 3 (some .int) :: WALL
abbrev cX0_init : ByteArray := prog_4_method_1_code
abbrev yX0_init : MethodName := ⟨"TextPatterns$Row", "<init>", "(I)V"⟩
abbrev wsX0_init : List Cond := .code yX0_init cX0_init 2 none :: WALL
abbrev cX1_init : ByteArray := prog_5_method_1_code
abbrev yX1_init : MethodName := ⟨"TextPatterns$Sets", "<init>", "(I)V"⟩
abbrev wsX1_init : List Cond := .code yX1_init cX1_init 2 none :: WALL
abbrev cX2_init : ByteArray := prog_2_method_1_code
abbrev yX2_init : MethodName := ⟨"TextPatterns$Items", "<init>", "()V"⟩
abbrev wsX2_init : List Cond := .code yX2_init cX2_init 1 none :: WALL
abbrev cX3_init : ByteArray := prog_3_method_1_code
abbrev yX3_init : MethodName := ⟨"TextPatterns$Matcher", "<init>", "()V"⟩
abbrev wsX3_init : List Cond := .code yX3_init cX3_init 1 none :: WALL
abbrev cX4_init : ByteArray := prog_1_method_1_code
abbrev yX4_init : MethodName := ⟨"TextPatterns", "<init>", "()V"⟩
abbrev wsX4_init : List Cond := .code yX4_init cX4_init 1 none :: WALL
abbrev cX5_init : ByteArray := prog_7_method_1_code
abbrev yX5_init : MethodName := ⟨"TextPatternsModel", "<init>", "()V"⟩
abbrev wsX5_init : List Cond := .code yX5_init cX5_init 1 none :: WALL
abbrev cX5_beginOf : ByteArray := prog_7_method_3_code
abbrev yX5_beginOf : MethodName := ⟨"TextPatternsModel", "beginOf", "(I)I"⟩
abbrev wsX5_beginOf : List Cond := .code yX5_beginOf cX5_beginOf 1 (some .int) :: WALL
abbrev cX5_most : ByteArray := prog_7_method_2_code
abbrev yX5_most : MethodName := ⟨"TextPatternsModel", "most", "(I)I"⟩
abbrev wsX5_most : List Cond := .code yX5_most cX5_most 1 (some .int) :: WALL
abbrev cX5_at : ByteArray := prog_7_method_6_code
abbrev yX5_at : MethodName := ⟨"TextPatternsModel", "at", "(II)I"⟩
abbrev wsX5_at : List Cond := .code yX5_at cX5_at 3 (some .int) :: WALL
abbrev cX5_pattern : ByteArray := prog_7_method_7_code
abbrev yX5_pattern : MethodName := ⟨"TextPatternsModel", "pattern", "(I)I"⟩
abbrev wsX5_pattern : List Cond := .code yX5_pattern cX5_pattern 2 (some .int) :: WALL
abbrev cX5_isBetween : ByteArray := prog_7_method_8_code
abbrev yX5_isBetween : MethodName := ⟨"TextPatternsModel", "isBetween", "(III)Z"⟩
abbrev wsX5_isBetween : List Cond := .code yX5_isBetween cX5_isBetween 3 (some .boolean) :: WALL
abbrev cX5_isLetter : ByteArray := prog_7_method_9_code
abbrev yX5_isLetter : MethodName := ⟨"TextPatternsModel", "isLetter", "(I)Z"⟩
abbrev wsX5_isLetter : List Cond := .code yX5_isLetter cX5_isLetter 1 (some .boolean) :: WALL
abbrev cX5_isDigit : ByteArray := prog_7_method_10_code
abbrev yX5_isDigit : MethodName := ⟨"TextPatternsModel", "isDigit", "(I)Z"⟩
abbrev wsX5_isDigit : List Cond := .code yX5_isDigit cX5_isDigit 1 (some .boolean) :: WALL
abbrev cX5_classHas : ByteArray := prog_7_method_11_code
abbrev yX5_classHas : MethodName := ⟨"TextPatternsModel", "classHas", "(II)Z"⟩
abbrev wsX5_classHas : List Cond := .code yX5_classHas cX5_classHas 4 (some .boolean) :: WALL
abbrev cX5_closing : ByteArray := prog_7_method_12_code
abbrev yX5_closing : MethodName := ⟨"TextPatternsModel", "closing", "(I)I"⟩
abbrev wsX5_closing : List Cond := .code yX5_closing cX5_closing 4 (some .int) :: WALL
abbrev cX5_setHas : ByteArray := prog_7_method_13_code
abbrev yX5_setHas : MethodName := ⟨"TextPatternsModel", "setHas", "(III)Z"⟩
abbrev wsX5_setHas : List Cond := .code yX5_setHas cX5_setHas 7 (some .boolean) :: WALL
abbrev cX5_behindSingle : ByteArray := prog_7_method_14_code
abbrev yX5_behindSingle : MethodName := ⟨"TextPatternsModel", "behindSingle", "(I)I"⟩
abbrev wsX5_behindSingle : List Cond := .code yX5_behindSingle cX5_behindSingle 2 (some .int) :: WALL
abbrev cX5_singleHas : ByteArray := prog_7_method_15_code
abbrev yX5_singleHas : MethodName := ⟨"TextPatternsModel", "singleHas", "(II)Z"⟩
abbrev wsX5_singleHas : List Cond := .code yX5_singleHas cX5_singleHas 4 (some .boolean) :: WALL
abbrev cX5_look : ByteArray := prog_7_method_16_code
abbrev yX5_look : MethodName := ⟨"TextPatternsModel", "look", "()Z"⟩
abbrev wsX5_look : List Cond := .code yX5_look cX5_look 1 (some .boolean) :: WALL
abbrev cX5_isThere : ByteArray := prog_7_method_17_code
abbrev yX5_isThere : MethodName := ⟨"TextPatternsModel", "isThere", "(II)Z"⟩
abbrev wsX5_isThere : List Cond := .code yX5_isThere cX5_isThere 3 (some .boolean) :: WALL
abbrev cX5_settle : ByteArray := prog_7_method_20_code
abbrev yX5_settle : MethodName := ⟨"TextPatternsModel", "settle", "(III)I"⟩
abbrev wsX5_settle : List Cond := .code yX5_settle cX5_settle 4 (some .int) :: WALL
abbrev cX5_wrong : ByteArray := prog_7_method_21_code
abbrev yX5_wrong : MethodName := ⟨"TextPatternsModel", "wrong", "()I"⟩
abbrev wsX5_wrong : List Cond := .code yX5_wrong cX5_wrong 1 (some .int) :: WALL
abbrev cX5_lastOpen : ByteArray := prog_7_method_19_code
abbrev yX5_lastOpen : MethodName := ⟨"TextPatternsModel", "lastOpen", "()I"⟩
abbrev wsX5_lastOpen : List Cond := .code yX5_lastOpen cX5_lastOpen 2 (some .int) :: WALL
abbrev cX5_clear : ByteArray := prog_7_method_5_code
abbrev yX5_clear : MethodName := ⟨"TextPatternsModel", "clear", "(I)I"⟩
abbrev wsX5_clear : List Cond := .code yX5_clear cX5_clear 3 (some .int) :: WALL
abbrev cX5_begin : ByteArray := prog_7_method_35_code
abbrev yX5_begin : MethodName := ⟨"TextPatternsModel", "begin", "()V"⟩
abbrev wsX5_begin : List Cond := .code yX5_begin cX5_begin 1 none :: WALL
abbrev cX5_looks : ByteArray := prog_7_method_43_code
abbrev yX5_looks : MethodName := ⟨"TextPatternsModel", "looks", "()I"⟩
abbrev wsX5_looks : List Cond := .code yX5_looks cX5_looks 1 (some .int) :: WALL
abbrev cX5_first : ByteArray := prog_7_method_44_code
abbrev yX5_first : MethodName := ⟨"TextPatternsModel", "first", "()I"⟩
abbrev wsX5_first : List Cond := .code yX5_first cX5_first 1 (some .int) :: WALL
abbrev cX5_last : ByteArray := prog_7_method_45_code
abbrev yX5_last : MethodName := ⟨"TextPatternsModel", "last", "()I"⟩
abbrev wsX5_last : List Cond := .code yX5_last cX5_last 1 (some .int) :: WALL
abbrev cX5_captures : ByteArray := prog_7_method_46_code
abbrev yX5_captures : MethodName := ⟨"TextPatternsModel", "captures", "()I"⟩
abbrev wsX5_captures : List Cond := .code yX5_captures cX5_captures 1 (some .int) :: WALL
abbrev cX5_capture : ByteArray := prog_7_method_47_code
abbrev yX5_capture : MethodName := ⟨"TextPatternsModel", "capture", "(II)I"⟩
abbrev wsX5_capture : List Cond := .code yX5_capture cX5_capture 3 (some .int) :: WALL
abbrev cX5_size : ByteArray := prog_7_method_48_code
abbrev yX5_size : MethodName := ⟨"TextPatternsModel", "size", "()I"⟩
abbrev wsX5_size : List Cond := .code yX5_size cX5_size 1 (some .int) :: WALL
abbrev cX5_result : ByteArray := prog_7_method_49_code
abbrev yX5_result : MethodName := ⟨"TextPatternsModel", "result", "(I)I"⟩
abbrev wsX5_result : List Cond := .code yX5_result cX5_result 2 (some .int) :: WALL
abbrev cX5_single_1 : ByteArray := prog_7_method_50_code
abbrev yX5_single_1 : MethodName := ⟨"TextPatternsModel", "single", "(I)I"⟩
abbrev wsX5_single_1 : List Cond := .code yX5_single_1 cX5_single_1 2 (some .int) :: WALL
abbrev cX5_isAnchored : ByteArray := prog_7_method_32_code
abbrev yX5_isAnchored : MethodName := ⟨"TextPatternsModel", "isAnchored", "()Z"⟩
abbrev wsX5_isAnchored : List Cond := .code yX5_isAnchored cX5_isAnchored 1 (some .boolean) :: WALL
abbrev cX5_type : ByteArray := prog_7_method_4_code
abbrev yX5_type : MethodName := ⟨"TextPatternsModel", "type", "(IJI)I"⟩
abbrev wsX5_type : List Cond := .code yX5_type cX5_type 6 (some .int) :: WALL
theorem w_0 : (.selects "TextPatterns" ⟨"TextPatterns", "rowOf", "(I)LTextPatterns$Row;"⟩ ⟨"TextPatterns", "rowOf", "(I)LTextPatterns$Row;"⟩ : Cond) ∈ WALL := kw (i := 0) (by decide +kernel) (by decide +kernel)
theorem w_1 : (.selects "TextPatterns" ⟨"TextPatterns", "isFixed", "()Z"⟩ ⟨"TextPatterns", "isFixed", "()Z"⟩ : Cond) ∈ WALL := kw (i := 1) (by decide +kernel) (by decide +kernel)
theorem w_2 : (.selects "TextPatterns$Items" ⟨"TextPatterns$Items", "readRepeated", "(LTextPatterns$Row;I)I"⟩ ⟨"TextPatterns$Items", "readRepeated", "(LTextPatterns$Row;I)I"⟩ : Cond) ∈ WALL := kw (i := 2) (by decide +kernel) (by decide +kernel)
theorem w_3 : (.selects "TextPatterns$Sets" ⟨"TextPatterns$Sets", "empty", "(I)V"⟩ ⟨"TextPatterns$Sets", "empty", "(I)V"⟩ : Cond) ∈ WALL := kw (i := 3) (by decide +kernel) (by decide +kernel)
theorem w_4 : (.selects "TextPatterns$Sets" ⟨"TextPatterns$Sets", "readSet", "(ILTextPatterns$Row;I)I"⟩ ⟨"TextPatterns$Sets", "readSet", "(ILTextPatterns$Row;I)I"⟩ : Cond) ∈ WALL := kw (i := 4) (by decide +kernel) (by decide +kernel)
theorem w_5 : (.selects "TextPatterns$Sets" ⟨"TextPatterns$Sets", "addNamed", "(II)V"⟩ ⟨"TextPatterns$Sets", "addNamed", "(II)V"⟩ : Cond) ∈ WALL := kw (i := 5) (by decide +kernel) (by decide +kernel)
theorem w_6 : (.selects "TextPatterns$Sets" ⟨"TextPatterns$Sets", "addBits", "(IIJ)V"⟩ ⟨"TextPatterns$Sets", "addBits", "(IIJ)V"⟩ : Cond) ∈ WALL := kw (i := 6) (by decide +kernel) (by decide +kernel)
theorem w_7 : (.selects "TextPatterns$Sets" ⟨"TextPatterns$Sets", "addSpan", "(III)V"⟩ ⟨"TextPatterns$Sets", "addSpan", "(III)V"⟩ : Cond) ∈ WALL := kw (i := 7) (by decide +kernel) (by decide +kernel)
theorem w_8 : (.selects "TextPatterns$Sets" ⟨"TextPatterns$Sets", "turn", "(I)V"⟩ ⟨"TextPatterns$Sets", "turn", "(I)V"⟩ : Cond) ∈ WALL := kw (i := 8) (by decide +kernel) (by decide +kernel)
theorem w_9 : (.selects "TextPatterns$Sets" ⟨"TextPatterns$Sets", "readNamed", "(III)I"⟩ ⟨"TextPatterns$Sets", "readNamed", "(III)I"⟩ : Cond) ∈ WALL := kw (i := 9) (by decide +kernel) (by decide +kernel)
theorem w_10 : (.selects "TextPatterns$Items" ⟨"TextPatterns$Items", "add", "(III)V"⟩ ⟨"TextPatterns$Items", "add", "(III)V"⟩ : Cond) ∈ WALL := kw (i := 10) (by decide +kernel) (by decide +kernel)
theorem w_11 : (.selects "TextPatterns$Items" ⟨"TextPatterns$Items", "readSpecial", "(ILTextPatterns$Row;I)I"⟩ ⟨"TextPatterns$Items", "readSpecial", "(ILTextPatterns$Row;I)I"⟩ : Cond) ∈ WALL := kw (i := 11) (by decide +kernel) (by decide +kernel)
theorem w_12 : (.selects "TextPatterns$Items" ⟨"TextPatterns$Items", "readOpening", "(II)I"⟩ ⟨"TextPatterns$Items", "readOpening", "(II)I"⟩ : Cond) ∈ WALL := kw (i := 12) (by decide +kernel) (by decide +kernel)
theorem w_13 : (.selects "TextPatterns$Items" ⟨"TextPatterns$Items", "readClosing", "(I)I"⟩ ⟨"TextPatterns$Items", "readClosing", "(I)I"⟩ : Cond) ∈ WALL := kw (i := 13) (by decide +kernel) (by decide +kernel)
theorem w_14 : (.selects "TextPatterns$Items" ⟨"TextPatterns$Items", "latestOpen", "()I"⟩ ⟨"TextPatterns$Items", "latestOpen", "()I"⟩ : Cond) ∈ WALL := kw (i := 14) (by decide +kernel) (by decide +kernel)
theorem w_15 : (.selects "TextPatterns$Items" ⟨"TextPatterns$Items", "readSame", "(II)I"⟩ ⟨"TextPatterns$Items", "readSame", "(II)I"⟩ : Cond) ∈ WALL := kw (i := 15) (by decide +kernel) (by decide +kernel)
theorem w_16 : (.selects "TextPatterns$Items" ⟨"TextPatterns$Items", "readPair", "(LTextPatterns$Row;I)I"⟩ ⟨"TextPatterns$Items", "readPair", "(LTextPatterns$Row;I)I"⟩ : Cond) ∈ WALL := kw (i := 16) (by decide +kernel) (by decide +kernel)
theorem w_17 : (.selects "TextPatterns$Items" ⟨"TextPatterns$Items", "readBorder", "(LTextPatterns$Row;I)I"⟩ ⟨"TextPatterns$Items", "readBorder", "(LTextPatterns$Row;I)I"⟩ : Cond) ∈ WALL := kw (i := 17) (by decide +kernel) (by decide +kernel)
theorem w_18 : (.selects "TextPatterns" ⟨"TextPatterns", "search", "(III)I"⟩ ⟨"TextPatterns", "search", "(III)I"⟩ : Cond) ∈ WALL := kw (i := 18) (by decide +kernel) (by decide +kernel)
theorem w_19 : (.selects "TextPatterns$Matcher" ⟨"TextPatterns$Matcher", "goOn", "(LTextPatterns$Items;LTextPatterns$Row;)I"⟩ ⟨"TextPatterns$Matcher", "goOn", "(LTextPatterns$Items;LTextPatterns$Row;)I"⟩ : Cond) ∈ WALL := kw (i := 19) (by decide +kernel) (by decide +kernel)
theorem w_20 : (.selects "TextPatterns$Matcher" ⟨"TextPatterns$Matcher", "takeRepeated", "(LTextPatterns$Items;LTextPatterns$Row;I)I"⟩ ⟨"TextPatterns$Matcher", "takeRepeated", "(LTextPatterns$Items;LTextPatterns$Row;I)I"⟩ : Cond) ∈ WALL := kw (i := 20) (by decide +kernel) (by decide +kernel)
theorem w_21 : (.selects "TextPatterns$Matcher" ⟨"TextPatterns$Matcher", "addChoice", "(II)V"⟩ ⟨"TextPatterns$Matcher", "addChoice", "(II)V"⟩ : Cond) ∈ WALL := kw (i := 21) (by decide +kernel) (by decide +kernel)
theorem w_22 : (.selects "TextPatterns$Matcher" ⟨"TextPatterns$Matcher", "look", "(LTextPatterns$Items;LTextPatterns$Row;II)I"⟩ ⟨"TextPatterns$Matcher", "look", "(LTextPatterns$Items;LTextPatterns$Row;II)I"⟩ : Cond) ∈ WALL := kw (i := 22) (by decide +kernel) (by decide +kernel)
theorem w_23 : (.selects "TextPatterns$Matcher" ⟨"TextPatterns$Matcher", "mayLook", "()Z"⟩ ⟨"TextPatterns$Matcher", "mayLook", "()Z"⟩ : Cond) ∈ WALL := kw (i := 23) (by decide +kernel) (by decide +kernel)
theorem w_24 : (.selects "TextPatterns$Matcher" ⟨"TextPatterns$Matcher", "takeSpecial", "(LTextPatterns$Items;LTextPatterns$Row;I)I"⟩ ⟨"TextPatterns$Matcher", "takeSpecial", "(LTextPatterns$Items;LTextPatterns$Row;I)I"⟩ : Cond) ∈ WALL := kw (i := 24) (by decide +kernel) (by decide +kernel)
theorem w_25 : (.selects "TextPatterns$Matcher" ⟨"TextPatterns$Matcher", "setStart", "(I)V"⟩ ⟨"TextPatterns$Matcher", "setStart", "(I)V"⟩ : Cond) ∈ WALL := kw (i := 25) (by decide +kernel) (by decide +kernel)
theorem w_26 : (.selects "TextPatterns$Matcher" ⟨"TextPatterns$Matcher", "setLength", "(I)V"⟩ ⟨"TextPatterns$Matcher", "setLength", "(I)V"⟩ : Cond) ∈ WALL := kw (i := 26) (by decide +kernel) (by decide +kernel)
theorem w_27 : (.selects "TextPatterns$Matcher" ⟨"TextPatterns$Matcher", "takeSame", "(LTextPatterns$Row;II)I"⟩ ⟨"TextPatterns$Matcher", "takeSame", "(LTextPatterns$Row;II)I"⟩ : Cond) ∈ WALL := kw (i := 27) (by decide +kernel) (by decide +kernel)
theorem w_28 : (.selects "TextPatterns$Matcher" ⟨"TextPatterns$Matcher", "takePair", "(LTextPatterns$Row;II)I"⟩ ⟨"TextPatterns$Matcher", "takePair", "(LTextPatterns$Row;II)I"⟩ : Cond) ∈ WALL := kw (i := 28) (by decide +kernel) (by decide +kernel)
theorem w_29 : (.selects "TextPatterns$Matcher" ⟨"TextPatterns$Matcher", "lookAtBorder", "(LTextPatterns$Items;LTextPatterns$Row;)I"⟩ ⟨"TextPatterns$Matcher", "lookAtBorder", "(LTextPatterns$Items;LTextPatterns$Row;)I"⟩ : Cond) ∈ WALL := kw (i := 29) (by decide +kernel) (by decide +kernel)
theorem w_30 : (.selects "TextPatterns$Matcher" ⟨"TextPatterns$Matcher", "tryNextWay", "(LTextPatterns$Items;LTextPatterns$Row;)I"⟩ ⟨"TextPatterns$Matcher", "tryNextWay", "(LTextPatterns$Items;LTextPatterns$Row;)I"⟩ : Cond) ∈ WALL := kw (i := 30) (by decide +kernel) (by decide +kernel)
theorem w_31 : (.selects "TextPatterns$Matcher" ⟨"TextPatterns$Matcher", "changeChoice", "(LTextPatterns$Items;LTextPatterns$Row;I)I"⟩ ⟨"TextPatterns$Matcher", "changeChoice", "(LTextPatterns$Items;LTextPatterns$Row;I)I"⟩ : Cond) ∈ WALL := kw (i := 31) (by decide +kernel) (by decide +kernel)
theorem w_32 : (.selects "TextPatterns" ⟨"TextPatterns", "replaceMatches", "(IZ)I"⟩ ⟨"TextPatterns", "replaceMatches", "(IZ)I"⟩ : Cond) ∈ WALL := kw (i := 32) (by decide +kernel) (by decide +kernel)
theorem w_33 : (.selects "TextPatterns" ⟨"TextPatterns", "addReplacement", "(II)I"⟩ ⟨"TextPatterns", "addReplacement", "(II)I"⟩ : Cond) ∈ WALL := kw (i := 33) (by decide +kernel) (by decide +kernel)
theorem w_34 : (.selects "TextPatterns" ⟨"TextPatterns", "addMarked", "(III)I"⟩ ⟨"TextPatterns", "addMarked", "(III)I"⟩ : Cond) ∈ WALL := kw (i := 34) (by decide +kernel) (by decide +kernel)
theorem w_35 : (.selects "TextPatterns" ⟨"TextPatterns", "addByte", "(I)I"⟩ ⟨"TextPatterns", "addByte", "(I)I"⟩ : Cond) ∈ WALL := kw (i := 35) (by decide +kernel) (by decide +kernel)
theorem w_36 : (.selects "TextPatterns" ⟨"TextPatterns", "addText", "(II)I"⟩ ⟨"TextPatterns", "addText", "(II)I"⟩ : Cond) ∈ WALL := kw (i := 36) (by decide +kernel) (by decide +kernel)
theorem w_37 : (.selects "TextPatterns" ⟨"TextPatterns", "addNumber", "(I)I"⟩ ⟨"TextPatterns", "addNumber", "(I)I"⟩ : Cond) ∈ WALL := kw (i := 37) (by decide +kernel) (by decide +kernel)
theorem w_39 : (.selects "TextPatternsModel" ⟨"TextPatternsModel", "pattern", "(I)I"⟩ ⟨"TextPatternsModel", "pattern", "(I)I"⟩ : Cond) ∈ WALL := kw (i := 39) (by decide +kernel) (by decide +kernel)
theorem w_40 : (.selects "TextPatternsModel" ⟨"TextPatternsModel", "at", "(II)I"⟩ ⟨"TextPatternsModel", "at", "(II)I"⟩ : Cond) ∈ WALL := kw (i := 40) (by decide +kernel) (by decide +kernel)
theorem w_51 : (.selects "TextPatternsModel" ⟨"TextPatternsModel", "look", "()Z"⟩ ⟨"TextPatternsModel", "look", "()Z"⟩ : Cond) ∈ WALL := kw (i := 51) (by decide +kernel) (by decide +kernel)
theorem w_53 : (.selects "TextPatternsModel" ⟨"TextPatternsModel", "closing", "(I)I"⟩ ⟨"TextPatternsModel", "closing", "(I)I"⟩ : Cond) ∈ WALL := kw (i := 53) (by decide +kernel) (by decide +kernel)
theorem w_54 : (.selects "TextPatternsModel" ⟨"TextPatternsModel", "setHas", "(III)Z"⟩ ⟨"TextPatternsModel", "setHas", "(III)Z"⟩ : Cond) ∈ WALL := kw (i := 54) (by decide +kernel) (by decide +kernel)
theorem w_57 : (.selects "TextPatternsModel" ⟨"TextPatternsModel", "behindSingle", "(I)I"⟩ ⟨"TextPatternsModel", "behindSingle", "(I)I"⟩ : Cond) ∈ WALL := kw (i := 57) (by decide +kernel) (by decide +kernel)
theorem w_59 : (.selects "TextPatternsModel" ⟨"TextPatternsModel", "singleHas", "(II)Z"⟩ ⟨"TextPatternsModel", "singleHas", "(II)Z"⟩ : Cond) ∈ WALL := kw (i := 59) (by decide +kernel) (by decide +kernel)
theorem w_68 : (.initialized "TextPatterns" : Cond) ∈ WALL := kw (i := 68) (by decide +kernel) (by decide +kernel)
theorem w_69 : (.initialized "TextPatterns$Row" : Cond) ∈ WALL := kw (i := 69) (by decide +kernel) (by decide +kernel)
theorem w_70 : (.initialized "java/lang/Math" : Cond) ∈ WALL := kw (i := 70) (by decide +kernel) (by decide +kernel)
theorem w_71 : (.initialized "TextPatterns$Items" : Cond) ∈ WALL := kw (i := 71) (by decide +kernel) (by decide +kernel)
theorem w_72 : (.initialized "TextPatterns$Sets" : Cond) ∈ WALL := kw (i := 72) (by decide +kernel) (by decide +kernel)
theorem w_73 : (.initialized "TextPatterns$Matcher" : Cond) ∈ WALL := kw (i := 73) (by decide +kernel) (by decide +kernel)
theorem w_74 : (.initialized "TextPatternsModel" : Cond) ∈ WALL := kw (i := 74) (by decide +kernel) (by decide +kernel)
theorem w_79 : (.code ⟨"TextPatterns", "<init>", "()V"⟩ prog_1_method_1_code 1 none : Cond) ∈ WALL := kw (i := 79) (by decide +kernel) (by decide +kernel)
theorem w_80 : (.methodLink "TextPatterns" 3 ⟨"java/lang/Object", "<init>", "()V"⟩ : Cond) ∈ WALL := kw (i := 80) (by decide +kernel) (by decide +kernel)
theorem w_81 : (.instanceMethod ⟨"java/lang/Object", "<init>", "()V"⟩ : Cond) ∈ WALL := kw (i := 81) (by decide +kernel) (by decide +kernel)
theorem w_82 : (.code objectInit ⟨#[0xb1]⟩ 1 none : Cond) ∈ WALL := kw (i := 82) (by decide +kernel) (by decide +kernel)
theorem w_83 : (.classLink "TextPatterns" 9 "TextPatterns$Row" : Cond) ∈ WALL := kw (i := 83) (by decide +kernel) (by decide +kernel)
theorem w_84 : (.instantiable "TextPatterns$Row" 2 : Cond) ∈ WALL := kw (i := 84) (by decide +kernel) (by decide +kernel)
theorem w_85 : (.methodLink "TextPatterns" 11 ⟨"TextPatterns$Row", "<init>", "(I)V"⟩ : Cond) ∈ WALL := kw (i := 85) (by decide +kernel) (by decide +kernel)
theorem w_86 : (.instanceMethod ⟨"TextPatterns$Row", "<init>", "(I)V"⟩ : Cond) ∈ WALL := kw (i := 86) (by decide +kernel) (by decide +kernel)
theorem w_87 : (.code ⟨"TextPatterns$Row", "<init>", "(I)V"⟩ prog_4_method_1_code 2 none : Cond) ∈ WALL := kw (i := 87) (by decide +kernel) (by decide +kernel)
theorem w_88 : (.methodLink "TextPatterns$Row" 3 ⟨"java/lang/Object", "<init>", "()V"⟩ : Cond) ∈ WALL := kw (i := 88) (by decide +kernel) (by decide +kernel)
theorem w_89 : (.methodLink "TextPatterns$Row" 9 ⟨"java/lang/Math", "max", "(II)I"⟩ : Cond) ∈ WALL := kw (i := 89) (by decide +kernel) (by decide +kernel)
theorem w_90 : (.static ⟨"java/lang/Math", "max", "(II)I"⟩ : Cond) ∈ WALL := kw (i := 90) (by decide +kernel) (by decide +kernel)
theorem w_91 : (.code Lib.Math.max.name Lib.Math.max.code 2 (some .int) : Cond) ∈ WALL := kw (i := 91) (by decide +kernel) (by decide +kernel)
theorem w_92 : (.fieldLink "TextPatterns$Row" 15 "TextPatterns$Row" "bytes" "[B" : Cond) ∈ WALL := kw (i := 92) (by decide +kernel) (by decide +kernel)
theorem w_93 : (.fieldLink "TextPatterns$Row" 21 "TextPatterns$Row" "length" "I" : Cond) ∈ WALL := kw (i := 93) (by decide +kernel) (by decide +kernel)
theorem w_99 : (.arrayClass .byte : Cond) ∈ WALL := kw (i := 99) (by decide +kernel) (by decide +kernel)
theorem w_100 : (.classLink "TextPatterns" 27 "TextPatterns$Items" : Cond) ∈ WALL := kw (i := 100) (by decide +kernel) (by decide +kernel)
theorem w_101 : (.instantiable "TextPatterns$Items" 7 : Cond) ∈ WALL := kw (i := 101) (by decide +kernel) (by decide +kernel)
theorem w_103 : (.instanceMethod ⟨"TextPatterns$Items", "<init>", "()V"⟩ : Cond) ∈ WALL := kw (i := 103) (by decide +kernel) (by decide +kernel)
theorem w_104 : (.code ⟨"TextPatterns$Items", "<init>", "()V"⟩ prog_2_method_1_code 1 none : Cond) ∈ WALL := kw (i := 104) (by decide +kernel) (by decide +kernel)
theorem w_105 : (.methodLink "TextPatterns$Items" 3 ⟨"java/lang/Object", "<init>", "()V"⟩ : Cond) ∈ WALL := kw (i := 105) (by decide +kernel) (by decide +kernel)
theorem w_106 : (.classLink "TextPatterns$Items" 21 "TextPatterns$Sets" : Cond) ∈ WALL := kw (i := 106) (by decide +kernel) (by decide +kernel)
theorem w_107 : (.instantiable "TextPatterns$Sets" 1 : Cond) ∈ WALL := kw (i := 107) (by decide +kernel) (by decide +kernel)
theorem w_108 : (.methodLink "TextPatterns$Items" 23 ⟨"TextPatterns$Sets", "<init>", "(I)V"⟩ : Cond) ∈ WALL := kw (i := 108) (by decide +kernel) (by decide +kernel)
theorem w_109 : (.instanceMethod ⟨"TextPatterns$Sets", "<init>", "(I)V"⟩ : Cond) ∈ WALL := kw (i := 109) (by decide +kernel) (by decide +kernel)
theorem w_110 : (.code ⟨"TextPatterns$Sets", "<init>", "(I)V"⟩ prog_5_method_1_code 2 none : Cond) ∈ WALL := kw (i := 110) (by decide +kernel) (by decide +kernel)
theorem w_111 : (.methodLink "TextPatterns$Sets" 3 ⟨"java/lang/Object", "<init>", "()V"⟩ : Cond) ∈ WALL := kw (i := 111) (by decide +kernel) (by decide +kernel)
theorem w_112 : (.methodLink "TextPatterns$Sets" 9 ⟨"java/lang/Math", "max", "(II)I"⟩ : Cond) ∈ WALL := kw (i := 112) (by decide +kernel) (by decide +kernel)
theorem w_113 : (.fieldLink "TextPatterns$Sets" 15 "TextPatterns$Sets" "words" "[J" : Cond) ∈ WALL := kw (i := 113) (by decide +kernel) (by decide +kernel)
theorem w_117 : (.arrayClass .int : Cond) ∈ WALL := kw (i := 117) (by decide +kernel) (by decide +kernel)
theorem w_118 : (.arrayClass .long : Cond) ∈ WALL := kw (i := 118) (by decide +kernel) (by decide +kernel)
theorem w_119 : (.fieldLink "TextPatterns$Items" 9 "TextPatterns$Items" "kinds" "[I" : Cond) ∈ WALL := kw (i := 119) (by decide +kernel) (by decide +kernel)
theorem w_120 : (.fieldLink "TextPatterns$Items" 15 "TextPatterns$Items" "ones" "[I" : Cond) ∈ WALL := kw (i := 120) (by decide +kernel) (by decide +kernel)
theorem w_121 : (.fieldLink "TextPatterns$Items" 18 "TextPatterns$Items" "twos" "[I" : Cond) ∈ WALL := kw (i := 121) (by decide +kernel) (by decide +kernel)
theorem w_122 : (.fieldLink "TextPatterns$Items" 26 "TextPatterns$Items" "sets" "LTextPatterns$Sets;" : Cond) ∈ WALL := kw (i := 122) (by decide +kernel) (by decide +kernel)
theorem w_124 : (.fieldLink "TextPatterns$Items" 30 "TextPatterns$Items" "states" "[I" : Cond) ∈ WALL := kw (i := 124) (by decide +kernel) (by decide +kernel)
theorem w_125 : (.fieldLink "TextPatterns$Items" 37 "TextPatterns$Items" "count" "I" : Cond) ∈ WALL := kw (i := 125) (by decide +kernel) (by decide +kernel)
theorem w_126 : (.fieldLink "TextPatterns$Items" 33 "TextPatterns$Items" "captureCount" "I" : Cond) ∈ WALL := kw (i := 126) (by decide +kernel) (by decide +kernel)
theorem w_142 : (.classLink "TextPatterns" 34 "TextPatterns$Matcher" : Cond) ∈ WALL := kw (i := 142) (by decide +kernel) (by decide +kernel)
theorem w_143 : (.instantiable "TextPatterns$Matcher" 9 : Cond) ∈ WALL := kw (i := 143) (by decide +kernel) (by decide +kernel)
theorem w_145 : (.instanceMethod ⟨"TextPatterns$Matcher", "<init>", "()V"⟩ : Cond) ∈ WALL := kw (i := 145) (by decide +kernel) (by decide +kernel)
theorem w_146 : (.code ⟨"TextPatterns$Matcher", "<init>", "()V"⟩ prog_3_method_1_code 1 none : Cond) ∈ WALL := kw (i := 146) (by decide +kernel) (by decide +kernel)
theorem w_147 : (.methodLink "TextPatterns$Matcher" 3 ⟨"java/lang/Object", "<init>", "()V"⟩ : Cond) ∈ WALL := kw (i := 147) (by decide +kernel) (by decide +kernel)
theorem w_148 : (.fieldLink "TextPatterns$Matcher" 9 "TextPatterns$Matcher" "choiceItems" "[I" : Cond) ∈ WALL := kw (i := 148) (by decide +kernel) (by decide +kernel)
theorem w_149 : (.fieldLink "TextPatterns$Matcher" 15 "TextPatterns$Matcher" "choiceLeast" "[I" : Cond) ∈ WALL := kw (i := 149) (by decide +kernel) (by decide +kernel)
theorem w_150 : (.fieldLink "TextPatterns$Matcher" 18 "TextPatterns$Matcher" "choicePlaces" "[I" : Cond) ∈ WALL := kw (i := 150) (by decide +kernel) (by decide +kernel)
theorem w_151 : (.fieldLink "TextPatterns$Matcher" 21 "TextPatterns$Matcher" "starts" "[I" : Cond) ∈ WALL := kw (i := 151) (by decide +kernel) (by decide +kernel)
theorem w_152 : (.fieldLink "TextPatterns$Matcher" 24 "TextPatterns$Matcher" "lengths" "[I" : Cond) ∈ WALL := kw (i := 152) (by decide +kernel) (by decide +kernel)
theorem w_153 : (.fieldLink "TextPatterns$Matcher" 34 "TextPatterns$Matcher" "choices" "I" : Cond) ∈ WALL := kw (i := 153) (by decide +kernel) (by decide +kernel)
theorem w_154 : (.fieldLink "TextPatterns$Matcher" 37 "TextPatterns$Matcher" "item" "I" : Cond) ∈ WALL := kw (i := 154) (by decide +kernel) (by decide +kernel)
theorem w_155 : (.fieldLink "TextPatterns$Matcher" 31 "TextPatterns$Matcher" "place" "I" : Cond) ∈ WALL := kw (i := 155) (by decide +kernel) (by decide +kernel)
theorem w_156 : (.fieldLink "TextPatterns$Matcher" 27 "TextPatterns$Matcher" "looks" "I" : Cond) ∈ WALL := kw (i := 156) (by decide +kernel) (by decide +kernel)
theorem w_176 : (.classLink "TextPatterns" 41 "TextPatterns$Sets" : Cond) ∈ WALL := kw (i := 176) (by decide +kernel) (by decide +kernel)
theorem w_177 : (.methodLink "TextPatterns" 43 ⟨"TextPatterns$Sets", "<init>", "(I)V"⟩ : Cond) ∈ WALL := kw (i := 177) (by decide +kernel) (by decide +kernel)
theorem w_178 : (.fieldLink "TextPatterns" 14 "TextPatterns" "text" "LTextPatterns$Row;" : Cond) ∈ WALL := kw (i := 178) (by decide +kernel) (by decide +kernel)
theorem w_179 : (.fieldLink "TextPatterns" 18 "TextPatterns" "pattern" "LTextPatterns$Row;" : Cond) ∈ WALL := kw (i := 179) (by decide +kernel) (by decide +kernel)
theorem w_180 : (.fieldLink "TextPatterns" 21 "TextPatterns" "replacement" "LTextPatterns$Row;" : Cond) ∈ WALL := kw (i := 180) (by decide +kernel) (by decide +kernel)
theorem w_181 : (.fieldLink "TextPatterns" 24 "TextPatterns" "output" "LTextPatterns$Row;" : Cond) ∈ WALL := kw (i := 181) (by decide +kernel) (by decide +kernel)
theorem w_182 : (.fieldLink "TextPatterns" 30 "TextPatterns" "items" "LTextPatterns$Items;" : Cond) ∈ WALL := kw (i := 182) (by decide +kernel) (by decide +kernel)
theorem w_183 : (.fieldLink "TextPatterns" 37 "TextPatterns" "matcher" "LTextPatterns$Matcher;" : Cond) ∈ WALL := kw (i := 183) (by decide +kernel) (by decide +kernel)
theorem w_184 : (.fieldLink "TextPatterns" 44 "TextPatterns" "lone" "LTextPatterns$Sets;" : Cond) ∈ WALL := kw (i := 184) (by decide +kernel) (by decide +kernel)
theorem w_185 : (.fieldLink "TextPatterns" 63 "TextPatterns" "matched" "Z" : Cond) ∈ WALL := kw (i := 185) (by decide +kernel) (by decide +kernel)
theorem w_186 : (.fieldLink "TextPatterns" 104 "TextPatterns" "matchFirst" "I" : Cond) ∈ WALL := kw (i := 186) (by decide +kernel) (by decide +kernel)
theorem w_187 : (.fieldLink "TextPatterns" 94 "TextPatterns" "matchLast" "I" : Cond) ∈ WALL := kw (i := 187) (by decide +kernel) (by decide +kernel)
theorem w_188 : (.fieldLink "TextPatterns" 88 "TextPatterns" "nextPlace" "I" : Cond) ∈ WALL := kw (i := 188) (by decide +kernel) (by decide +kernel)
theorem w_189 : (.fieldLink "TextPatterns" 48 "TextPatterns" "nextEnd" "I" : Cond) ∈ WALL := kw (i := 189) (by decide +kernel) (by decide +kernel)
theorem w_190 : (.fieldLink "TextPatterns" 91 "TextPatterns" "nextOver" "Z" : Cond) ∈ WALL := kw (i := 190) (by decide +kernel) (by decide +kernel)
theorem w_221 : (.code ⟨"TextPatterns", "type", "(IJI)I"⟩ prog_1_method_2_code 7 (some .int) : Cond) ∈ WALL := kw (i := 221) (by decide +kernel) (by decide +kernel)
theorem w_222 : (.methodLink "TextPatterns" 52 ⟨"TextPatterns", "rowOf", "(I)LTextPatterns$Row;"⟩ : Cond) ∈ WALL := kw (i := 222) (by decide +kernel) (by decide +kernel)
theorem w_224 : (.instanceMethod ⟨"TextPatterns", "rowOf", "(I)LTextPatterns$Row;"⟩ : Cond) ∈ WALL := kw (i := 224) (by decide +kernel) (by decide +kernel)
theorem w_225 : (.code ⟨"TextPatterns", "rowOf", "(I)LTextPatterns$Row;"⟩ prog_1_method_16_code 2 (some (.object "TextPatterns$Row")) : Cond) ∈ WALL := kw (i := 225) (by decide +kernel) (by decide +kernel)
theorem w_226 : (.methodLink "TextPatterns" 56 ⟨"TextPatterns$Row", "room", "()I"⟩ : Cond) ∈ WALL := kw (i := 226) (by decide +kernel) (by decide +kernel)
theorem w_227 : (.instanceMethod ⟨"TextPatterns$Row", "room", "()I"⟩ : Cond) ∈ WALL := kw (i := 227) (by decide +kernel) (by decide +kernel)
theorem w_228 : (.selects "TextPatterns$Row" ⟨"TextPatterns$Row", "room", "()I"⟩ ⟨"TextPatterns$Row", "room", "()I"⟩ : Cond) ∈ WALL := kw (i := 228) (by decide +kernel) (by decide +kernel)
theorem w_229 : (.code ⟨"TextPatterns$Row", "room", "()I"⟩ prog_4_method_3_code 1 (some .int) : Cond) ∈ WALL := kw (i := 229) (by decide +kernel) (by decide +kernel)
theorem w_230 : (.methodLink "TextPatterns" 60 ⟨"TextPatterns$Row", "add", "(I)V"⟩ : Cond) ∈ WALL := kw (i := 230) (by decide +kernel) (by decide +kernel)
theorem w_231 : (.instanceMethod ⟨"TextPatterns$Row", "add", "(I)V"⟩ : Cond) ∈ WALL := kw (i := 231) (by decide +kernel) (by decide +kernel)
theorem w_232 : (.selects "TextPatterns$Row" ⟨"TextPatterns$Row", "add", "(I)V"⟩ ⟨"TextPatterns$Row", "add", "(I)V"⟩ : Cond) ∈ WALL := kw (i := 232) (by decide +kernel) (by decide +kernel)
theorem w_233 : (.code ⟨"TextPatterns$Row", "add", "(I)V"⟩ prog_4_method_5_code 2 none : Cond) ∈ WALL := kw (i := 233) (by decide +kernel) (by decide +kernel)
theorem w_234 : (.methodLink "TextPatterns" 67 ⟨"TextPatterns$Row", "length", "()I"⟩ : Cond) ∈ WALL := kw (i := 234) (by decide +kernel) (by decide +kernel)
theorem w_235 : (.instanceMethod ⟨"TextPatterns$Row", "length", "()I"⟩ : Cond) ∈ WALL := kw (i := 235) (by decide +kernel) (by decide +kernel)
theorem w_236 : (.selects "TextPatterns$Row" ⟨"TextPatterns$Row", "length", "()I"⟩ ⟨"TextPatterns$Row", "length", "()I"⟩ : Cond) ∈ WALL := kw (i := 236) (by decide +kernel) (by decide +kernel)
theorem w_237 : (.code ⟨"TextPatterns$Row", "length", "()I"⟩ prog_4_method_2_code 1 (some .int) : Cond) ∈ WALL := kw (i := 237) (by decide +kernel) (by decide +kernel)
theorem w_241 : (.code ⟨"TextPatterns", "clear", "(I)I"⟩ prog_1_method_3_code 4 (some .int) : Cond) ∈ WALL := kw (i := 241) (by decide +kernel) (by decide +kernel)
theorem w_242 : (.methodLink "TextPatterns" 70 ⟨"TextPatterns$Row", "empty", "()V"⟩ : Cond) ∈ WALL := kw (i := 242) (by decide +kernel) (by decide +kernel)
theorem w_243 : (.instanceMethod ⟨"TextPatterns$Row", "empty", "()V"⟩ : Cond) ∈ WALL := kw (i := 243) (by decide +kernel) (by decide +kernel)
theorem w_244 : (.selects "TextPatterns$Row" ⟨"TextPatterns$Row", "empty", "()V"⟩ ⟨"TextPatterns$Row", "empty", "()V"⟩ : Cond) ∈ WALL := kw (i := 244) (by decide +kernel) (by decide +kernel)
theorem w_245 : (.code ⟨"TextPatterns$Row", "empty", "()V"⟩ prog_4_method_4_code 1 none : Cond) ∈ WALL := kw (i := 245) (by decide +kernel) (by decide +kernel)
theorem w_249 : (.code ⟨"TextPatterns", "find", "(I)I"⟩ prog_1_method_4_code 3 (some .int) : Cond) ∈ WALL := kw (i := 249) (by decide +kernel) (by decide +kernel)
theorem w_250 : (.methodLink "TextPatterns" 73 ⟨"TextPatterns$Matcher", "forgetLooks", "()V"⟩ : Cond) ∈ WALL := kw (i := 250) (by decide +kernel) (by decide +kernel)
theorem w_251 : (.instanceMethod ⟨"TextPatterns$Matcher", "forgetLooks", "()V"⟩ : Cond) ∈ WALL := kw (i := 251) (by decide +kernel) (by decide +kernel)
theorem w_252 : (.selects "TextPatterns$Matcher" ⟨"TextPatterns$Matcher", "forgetLooks", "()V"⟩ ⟨"TextPatterns$Matcher", "forgetLooks", "()V"⟩ : Cond) ∈ WALL := kw (i := 252) (by decide +kernel) (by decide +kernel)
theorem w_253 : (.code ⟨"TextPatterns$Matcher", "forgetLooks", "()V"⟩ prog_3_method_2_code 1 none : Cond) ∈ WALL := kw (i := 253) (by decide +kernel) (by decide +kernel)
theorem w_254 : (.methodLink "TextPatterns" 76 ⟨"TextPatterns", "isFixed", "()Z"⟩ : Cond) ∈ WALL := kw (i := 254) (by decide +kernel) (by decide +kernel)
theorem w_256 : (.instanceMethod ⟨"TextPatterns", "isFixed", "()Z"⟩ : Cond) ∈ WALL := kw (i := 256) (by decide +kernel) (by decide +kernel)
theorem w_257 : (.code ⟨"TextPatterns", "isFixed", "()Z"⟩ prog_1_method_17_code 1 (some .boolean) : Cond) ∈ WALL := kw (i := 257) (by decide +kernel) (by decide +kernel)
theorem w_258 : (.methodLink "TextPatterns" 117 ⟨"TextPatterns$Row", "at", "(I)I"⟩ : Cond) ∈ WALL := kw (i := 258) (by decide +kernel) (by decide +kernel)
theorem w_259 : (.instanceMethod ⟨"TextPatterns$Row", "at", "(I)I"⟩ : Cond) ∈ WALL := kw (i := 259) (by decide +kernel) (by decide +kernel)
theorem w_260 : (.selects "TextPatterns$Row" ⟨"TextPatterns$Row", "at", "(I)I"⟩ ⟨"TextPatterns$Row", "at", "(I)I"⟩ : Cond) ∈ WALL := kw (i := 260) (by decide +kernel) (by decide +kernel)
theorem w_261 : (.code ⟨"TextPatterns$Row", "at", "(I)I"⟩ prog_4_method_6_code 2 (some .int) : Cond) ∈ WALL := kw (i := 261) (by decide +kernel) (by decide +kernel)
theorem w_262 : (.methodLink "TextPatterns" 80 ⟨"TextPatterns$Items", "read", "(LTextPatterns$Row;I)V"⟩ : Cond) ∈ WALL := kw (i := 262) (by decide +kernel) (by decide +kernel)
theorem w_263 : (.instanceMethod ⟨"TextPatterns$Items", "read", "(LTextPatterns$Row;I)V"⟩ : Cond) ∈ WALL := kw (i := 263) (by decide +kernel) (by decide +kernel)
theorem w_264 : (.selects "TextPatterns$Items" ⟨"TextPatterns$Items", "read", "(LTextPatterns$Row;I)V"⟩ ⟨"TextPatterns$Items", "read", "(LTextPatterns$Row;I)V"⟩ : Cond) ∈ WALL := kw (i := 264) (by decide +kernel) (by decide +kernel)
theorem w_265 : (.code ⟨"TextPatterns$Items", "read", "(LTextPatterns$Row;I)V"⟩ prog_2_method_6_code 6 none : Cond) ∈ WALL := kw (i := 265) (by decide +kernel) (by decide +kernel)
theorem w_266 : (.methodLink "TextPatterns$Items" 40 ⟨"TextPatterns$Row", "length", "()I"⟩ : Cond) ∈ WALL := kw (i := 266) (by decide +kernel) (by decide +kernel)
theorem w_267 : (.methodLink "TextPatterns$Items" 46 ⟨"TextPatterns$Items", "kindAt", "(LTextPatterns$Row;I)I"⟩ : Cond) ∈ WALL := kw (i := 267) (by decide +kernel) (by decide +kernel)
theorem w_268 : (.static ⟨"TextPatterns$Items", "kindAt", "(LTextPatterns$Row;I)I"⟩ : Cond) ∈ WALL := kw (i := 268) (by decide +kernel) (by decide +kernel)
theorem w_269 : (.code ⟨"TextPatterns$Items", "kindAt", "(LTextPatterns$Row;I)I"⟩ prog_2_method_7_code 4 (some .int) : Cond) ∈ WALL := kw (i := 269) (by decide +kernel) (by decide +kernel)
theorem w_270 : (.methodLink "TextPatterns$Items" 64 ⟨"TextPatterns$Row", "at", "(I)I"⟩ : Cond) ∈ WALL := kw (i := 270) (by decide +kernel) (by decide +kernel)
theorem w_271 : (.methodLink "TextPatterns$Items" 50 ⟨"TextPatterns$Items", "readRepeated", "(LTextPatterns$Row;I)I"⟩ : Cond) ∈ WALL := kw (i := 271) (by decide +kernel) (by decide +kernel)
theorem w_273 : (.instanceMethod ⟨"TextPatterns$Items", "readRepeated", "(LTextPatterns$Row;I)I"⟩ : Cond) ∈ WALL := kw (i := 273) (by decide +kernel) (by decide +kernel)
theorem w_274 : (.code ⟨"TextPatterns$Items", "readRepeated", "(LTextPatterns$Row;I)I"⟩ prog_2_method_8_code 4 (some .int) : Cond) ∈ WALL := kw (i := 274) (by decide +kernel) (by decide +kernel)
theorem w_275 : (.methodLink "TextPatterns$Items" 68 ⟨"TextPatterns$Sets", "readSingle", "(ILTextPatterns$Row;I)I"⟩ : Cond) ∈ WALL := kw (i := 275) (by decide +kernel) (by decide +kernel)
theorem w_276 : (.instanceMethod ⟨"TextPatterns$Sets", "readSingle", "(ILTextPatterns$Row;I)I"⟩ : Cond) ∈ WALL := kw (i := 276) (by decide +kernel) (by decide +kernel)
theorem w_277 : (.selects "TextPatterns$Sets" ⟨"TextPatterns$Sets", "readSingle", "(ILTextPatterns$Row;I)I"⟩ ⟨"TextPatterns$Sets", "readSingle", "(ILTextPatterns$Row;I)I"⟩ : Cond) ∈ WALL := kw (i := 277) (by decide +kernel) (by decide +kernel)
theorem w_278 : (.code ⟨"TextPatterns$Sets", "readSingle", "(ILTextPatterns$Row;I)I"⟩ prog_5_method_3_code 5 (some .int) : Cond) ∈ WALL := kw (i := 278) (by decide +kernel) (by decide +kernel)
theorem w_279 : (.methodLink "TextPatterns$Sets" 21 ⟨"TextPatterns$Sets", "empty", "(I)V"⟩ : Cond) ∈ WALL := kw (i := 279) (by decide +kernel) (by decide +kernel)
theorem w_281 : (.instanceMethod ⟨"TextPatterns$Sets", "empty", "(I)V"⟩ : Cond) ∈ WALL := kw (i := 281) (by decide +kernel) (by decide +kernel)
theorem w_282 : (.code ⟨"TextPatterns$Sets", "empty", "(I)V"⟩ prog_5_method_11_code 4 none : Cond) ∈ WALL := kw (i := 282) (by decide +kernel) (by decide +kernel)
theorem w_283 : (.methodLink "TextPatterns$Sets" 25 ⟨"TextPatterns$Row", "at", "(I)I"⟩ : Cond) ∈ WALL := kw (i := 283) (by decide +kernel) (by decide +kernel)
theorem w_284 : (.methodLink "TextPatterns$Sets" 31 ⟨"TextPatterns$Sets", "readSet", "(ILTextPatterns$Row;I)I"⟩ : Cond) ∈ WALL := kw (i := 284) (by decide +kernel) (by decide +kernel)
theorem w_286 : (.instanceMethod ⟨"TextPatterns$Sets", "readSet", "(ILTextPatterns$Row;I)I"⟩ : Cond) ∈ WALL := kw (i := 286) (by decide +kernel) (by decide +kernel)
theorem w_287 : (.code ⟨"TextPatterns$Sets", "readSet", "(ILTextPatterns$Row;I)I"⟩ prog_5_method_5_code 9 (some .int) : Cond) ∈ WALL := kw (i := 287) (by decide +kernel) (by decide +kernel)
theorem w_288 : (.methodLink "TextPatterns$Sets" 47 ⟨"TextPatterns$Sets", "closingOf", "(LTextPatterns$Row;I)I"⟩ : Cond) ∈ WALL := kw (i := 288) (by decide +kernel) (by decide +kernel)
theorem w_289 : (.static ⟨"TextPatterns$Sets", "closingOf", "(LTextPatterns$Row;I)I"⟩ : Cond) ∈ WALL := kw (i := 289) (by decide +kernel) (by decide +kernel)
theorem w_290 : (.code ⟨"TextPatterns$Sets", "closingOf", "(LTextPatterns$Row;I)I"⟩ prog_5_method_6_code 4 (some .int) : Cond) ∈ WALL := kw (i := 290) (by decide +kernel) (by decide +kernel)
theorem w_291 : (.methodLink "TextPatterns$Sets" 54 ⟨"TextPatterns$Row", "length", "()I"⟩ : Cond) ∈ WALL := kw (i := 291) (by decide +kernel) (by decide +kernel)
theorem w_292 : (.methodLink "TextPatterns$Sets" 43 ⟨"TextPatterns$Sets", "addNamed", "(II)V"⟩ : Cond) ∈ WALL := kw (i := 292) (by decide +kernel) (by decide +kernel)
theorem w_294 : (.instanceMethod ⟨"TextPatterns$Sets", "addNamed", "(II)V"⟩ : Cond) ∈ WALL := kw (i := 294) (by decide +kernel) (by decide +kernel)
theorem w_295 : (.code ⟨"TextPatterns$Sets", "addNamed", "(II)V"⟩ prog_5_method_7_code 10 none : Cond) ∈ WALL := kw (i := 295) (by decide +kernel) (by decide +kernel)
theorem w_298 : (.methodLink "TextPatterns$Sets" 62 ⟨"TextPatterns$Sets", "spanBits", "(III)J"⟩ : Cond) ∈ WALL := kw (i := 298) (by decide +kernel) (by decide +kernel)
theorem w_299 : (.static ⟨"TextPatterns$Sets", "spanBits", "(III)J"⟩ : Cond) ∈ WALL := kw (i := 299) (by decide +kernel) (by decide +kernel)
theorem w_300 : (.code ⟨"TextPatterns$Sets", "spanBits", "(III)J"⟩ prog_5_method_9_code 6 (some .long) : Cond) ∈ WALL := kw (i := 300) (by decide +kernel) (by decide +kernel)
theorem w_301 : (.constantLong "TextPatterns$Sets" 66 (-1) : Cond) ∈ WALL := kw (i := 301) (by decide +kernel) (by decide +kernel)
theorem w_302 : (.methodLink "TextPatterns$Sets" 68 ⟨"TextPatterns$Sets", "addBits", "(IIJ)V"⟩ : Cond) ∈ WALL := kw (i := 302) (by decide +kernel) (by decide +kernel)
theorem w_304 : (.instanceMethod ⟨"TextPatterns$Sets", "addBits", "(IIJ)V"⟩ : Cond) ∈ WALL := kw (i := 304) (by decide +kernel) (by decide +kernel)
theorem w_305 : (.code ⟨"TextPatterns$Sets", "addBits", "(IIJ)V"⟩ prog_5_method_10_code 6 none : Cond) ∈ WALL := kw (i := 305) (by decide +kernel) (by decide +kernel)
theorem w_306 : (.methodLink "TextPatterns$Sets" 39 ⟨"TextPatterns$Sets", "addSpan", "(III)V"⟩ : Cond) ∈ WALL := kw (i := 306) (by decide +kernel) (by decide +kernel)
theorem w_308 : (.instanceMethod ⟨"TextPatterns$Sets", "addSpan", "(III)V"⟩ : Cond) ∈ WALL := kw (i := 308) (by decide +kernel) (by decide +kernel)
theorem w_309 : (.code ⟨"TextPatterns$Sets", "addSpan", "(III)V"⟩ prog_5_method_8_code 5 none : Cond) ∈ WALL := kw (i := 309) (by decide +kernel) (by decide +kernel)
theorem w_310 : (.methodLink "TextPatterns$Sets" 51 ⟨"TextPatterns$Sets", "turn", "(I)V"⟩ : Cond) ∈ WALL := kw (i := 310) (by decide +kernel) (by decide +kernel)
theorem w_312 : (.instanceMethod ⟨"TextPatterns$Sets", "turn", "(I)V"⟩ : Cond) ∈ WALL := kw (i := 312) (by decide +kernel) (by decide +kernel)
theorem w_313 : (.code ⟨"TextPatterns$Sets", "turn", "(I)V"⟩ prog_5_method_12_code 4 none : Cond) ∈ WALL := kw (i := 313) (by decide +kernel) (by decide +kernel)
theorem w_314 : (.methodLink "TextPatterns$Sets" 35 ⟨"TextPatterns$Sets", "readNamed", "(III)I"⟩ : Cond) ∈ WALL := kw (i := 314) (by decide +kernel) (by decide +kernel)
theorem w_316 : (.instanceMethod ⟨"TextPatterns$Sets", "readNamed", "(III)I"⟩ : Cond) ∈ WALL := kw (i := 316) (by decide +kernel) (by decide +kernel)
theorem w_317 : (.code ⟨"TextPatterns$Sets", "readNamed", "(III)I"⟩ prog_5_method_4_code 4 (some .int) : Cond) ∈ WALL := kw (i := 317) (by decide +kernel) (by decide +kernel)
theorem w_318 : (.methodLink "TextPatterns$Items" 60 ⟨"TextPatterns$Items", "add", "(III)V"⟩ : Cond) ∈ WALL := kw (i := 318) (by decide +kernel) (by decide +kernel)
theorem w_320 : (.instanceMethod ⟨"TextPatterns$Items", "add", "(III)V"⟩ : Cond) ∈ WALL := kw (i := 320) (by decide +kernel) (by decide +kernel)
theorem w_321 : (.code ⟨"TextPatterns$Items", "add", "(III)V"⟩ prog_2_method_16_code 4 none : Cond) ∈ WALL := kw (i := 321) (by decide +kernel) (by decide +kernel)
theorem w_322 : (.methodLink "TextPatterns$Items" 53 ⟨"TextPatterns$Items", "readSpecial", "(ILTextPatterns$Row;I)I"⟩ : Cond) ∈ WALL := kw (i := 322) (by decide +kernel) (by decide +kernel)
theorem w_324 : (.instanceMethod ⟨"TextPatterns$Items", "readSpecial", "(ILTextPatterns$Row;I)I"⟩ : Cond) ∈ WALL := kw (i := 324) (by decide +kernel) (by decide +kernel)
theorem w_325 : (.code ⟨"TextPatterns$Items", "readSpecial", "(ILTextPatterns$Row;I)I"⟩ prog_2_method_9_code 4 (some .int) : Cond) ∈ WALL := kw (i := 325) (by decide +kernel) (by decide +kernel)
theorem w_326 : (.methodLink "TextPatterns$Items" 71 ⟨"TextPatterns$Items", "readOpening", "(II)I"⟩ : Cond) ∈ WALL := kw (i := 326) (by decide +kernel) (by decide +kernel)
theorem w_328 : (.instanceMethod ⟨"TextPatterns$Items", "readOpening", "(II)I"⟩ : Cond) ∈ WALL := kw (i := 328) (by decide +kernel) (by decide +kernel)
theorem w_329 : (.code ⟨"TextPatterns$Items", "readOpening", "(II)I"⟩ prog_2_method_10_code 3 (some .int) : Cond) ∈ WALL := kw (i := 329) (by decide +kernel) (by decide +kernel)
theorem w_330 : (.methodLink "TextPatterns$Items" 75 ⟨"TextPatterns$Items", "readClosing", "(I)I"⟩ : Cond) ∈ WALL := kw (i := 330) (by decide +kernel) (by decide +kernel)
theorem w_332 : (.instanceMethod ⟨"TextPatterns$Items", "readClosing", "(I)I"⟩ : Cond) ∈ WALL := kw (i := 332) (by decide +kernel) (by decide +kernel)
theorem w_333 : (.code ⟨"TextPatterns$Items", "readClosing", "(I)I"⟩ prog_2_method_11_code 3 (some .int) : Cond) ∈ WALL := kw (i := 333) (by decide +kernel) (by decide +kernel)
theorem w_334 : (.methodLink "TextPatterns$Items" 57 ⟨"TextPatterns$Items", "latestOpen", "()I"⟩ : Cond) ∈ WALL := kw (i := 334) (by decide +kernel) (by decide +kernel)
theorem w_336 : (.instanceMethod ⟨"TextPatterns$Items", "latestOpen", "()I"⟩ : Cond) ∈ WALL := kw (i := 336) (by decide +kernel) (by decide +kernel)
theorem w_337 : (.code ⟨"TextPatterns$Items", "latestOpen", "()I"⟩ prog_2_method_12_code 2 (some .int) : Cond) ∈ WALL := kw (i := 337) (by decide +kernel) (by decide +kernel)
theorem w_338 : (.methodLink "TextPatterns$Items" 87 ⟨"java/lang/Math", "min", "(II)I"⟩ : Cond) ∈ WALL := kw (i := 338) (by decide +kernel) (by decide +kernel)
theorem w_339 : (.static ⟨"java/lang/Math", "min", "(II)I"⟩ : Cond) ∈ WALL := kw (i := 339) (by decide +kernel) (by decide +kernel)
theorem w_340 : (.code Lib.Math.min.name Lib.Math.min.code 2 (some .int) : Cond) ∈ WALL := kw (i := 340) (by decide +kernel) (by decide +kernel)
theorem w_341 : (.methodLink "TextPatterns$Items" 78 ⟨"TextPatterns$Items", "readSame", "(II)I"⟩ : Cond) ∈ WALL := kw (i := 341) (by decide +kernel) (by decide +kernel)
theorem w_343 : (.instanceMethod ⟨"TextPatterns$Items", "readSame", "(II)I"⟩ : Cond) ∈ WALL := kw (i := 343) (by decide +kernel) (by decide +kernel)
theorem w_344 : (.code ⟨"TextPatterns$Items", "readSame", "(II)I"⟩ prog_2_method_13_code 3 (some .int) : Cond) ∈ WALL := kw (i := 344) (by decide +kernel) (by decide +kernel)
theorem w_345 : (.methodLink "TextPatterns$Items" 81 ⟨"TextPatterns$Items", "readPair", "(LTextPatterns$Row;I)I"⟩ : Cond) ∈ WALL := kw (i := 345) (by decide +kernel) (by decide +kernel)
theorem w_347 : (.instanceMethod ⟨"TextPatterns$Items", "readPair", "(LTextPatterns$Row;I)I"⟩ : Cond) ∈ WALL := kw (i := 347) (by decide +kernel) (by decide +kernel)
theorem w_348 : (.code ⟨"TextPatterns$Items", "readPair", "(LTextPatterns$Row;I)I"⟩ prog_2_method_14_code 3 (some .int) : Cond) ∈ WALL := kw (i := 348) (by decide +kernel) (by decide +kernel)
theorem w_349 : (.methodLink "TextPatterns$Items" 84 ⟨"TextPatterns$Items", "readBorder", "(LTextPatterns$Row;I)I"⟩ : Cond) ∈ WALL := kw (i := 349) (by decide +kernel) (by decide +kernel)
theorem w_351 : (.instanceMethod ⟨"TextPatterns$Items", "readBorder", "(LTextPatterns$Row;I)I"⟩ : Cond) ∈ WALL := kw (i := 351) (by decide +kernel) (by decide +kernel)
theorem w_352 : (.code ⟨"TextPatterns$Items", "readBorder", "(LTextPatterns$Row;I)I"⟩ prog_2_method_15_code 4 (some .int) : Cond) ∈ WALL := kw (i := 352) (by decide +kernel) (by decide +kernel)
theorem w_353 : (.methodLink "TextPatterns" 84 ⟨"TextPatterns", "search", "(III)I"⟩ : Cond) ∈ WALL := kw (i := 353) (by decide +kernel) (by decide +kernel)
theorem w_355 : (.instanceMethod ⟨"TextPatterns", "search", "(III)I"⟩ : Cond) ∈ WALL := kw (i := 355) (by decide +kernel) (by decide +kernel)
theorem w_356 : (.code ⟨"TextPatterns", "search", "(III)I"⟩ prog_1_method_18_code 6 (some .int) : Cond) ∈ WALL := kw (i := 356) (by decide +kernel) (by decide +kernel)
theorem w_357 : (.methodLink "TextPatterns" 128 ⟨"TextPatterns$Matcher", "matchAt", "(LTextPatterns$Items;LTextPatterns$Row;I)I"⟩ : Cond) ∈ WALL := kw (i := 357) (by decide +kernel) (by decide +kernel)
theorem w_358 : (.instanceMethod ⟨"TextPatterns$Matcher", "matchAt", "(LTextPatterns$Items;LTextPatterns$Row;I)I"⟩ : Cond) ∈ WALL := kw (i := 358) (by decide +kernel) (by decide +kernel)
theorem w_359 : (.selects "TextPatterns$Matcher" ⟨"TextPatterns$Matcher", "matchAt", "(LTextPatterns$Items;LTextPatterns$Row;I)I"⟩ ⟨"TextPatterns$Matcher", "matchAt", "(LTextPatterns$Items;LTextPatterns$Row;I)I"⟩ : Cond) ∈ WALL := kw (i := 359) (by decide +kernel) (by decide +kernel)
theorem w_360 : (.code ⟨"TextPatterns$Matcher", "matchAt", "(LTextPatterns$Items;LTextPatterns$Row;I)I"⟩ prog_3_method_7_code 6 (some .int) : Cond) ∈ WALL := kw (i := 360) (by decide +kernel) (by decide +kernel)
theorem w_361 : (.constant "TextPatterns$Matcher" 40 100000 : Cond) ∈ WALL := kw (i := 361) (by decide +kernel) (by decide +kernel)
theorem w_362 : (.methodLink "TextPatterns$Matcher" 41 ⟨"TextPatterns$Matcher", "goOn", "(LTextPatterns$Items;LTextPatterns$Row;)I"⟩ : Cond) ∈ WALL := kw (i := 362) (by decide +kernel) (by decide +kernel)
theorem w_364 : (.instanceMethod ⟨"TextPatterns$Matcher", "goOn", "(LTextPatterns$Items;LTextPatterns$Row;)I"⟩ : Cond) ∈ WALL := kw (i := 364) (by decide +kernel) (by decide +kernel)
theorem w_365 : (.code ⟨"TextPatterns$Matcher", "goOn", "(LTextPatterns$Items;LTextPatterns$Row;)I"⟩ prog_3_method_8_code 6 (some .int) : Cond) ∈ WALL := kw (i := 365) (by decide +kernel) (by decide +kernel)
theorem w_366 : (.methodLink "TextPatterns$Matcher" 48 ⟨"TextPatterns$Items", "kind", "(I)I"⟩ : Cond) ∈ WALL := kw (i := 366) (by decide +kernel) (by decide +kernel)
theorem w_367 : (.instanceMethod ⟨"TextPatterns$Items", "kind", "(I)I"⟩ : Cond) ∈ WALL := kw (i := 367) (by decide +kernel) (by decide +kernel)
theorem w_368 : (.selects "TextPatterns$Items" ⟨"TextPatterns$Items", "kind", "(I)I"⟩ ⟨"TextPatterns$Items", "kind", "(I)I"⟩ : Cond) ∈ WALL := kw (i := 368) (by decide +kernel) (by decide +kernel)
theorem w_369 : (.code ⟨"TextPatterns$Items", "kind", "(I)I"⟩ prog_2_method_3_code 2 (some .int) : Cond) ∈ WALL := kw (i := 369) (by decide +kernel) (by decide +kernel)
theorem w_370 : (.methodLink "TextPatterns$Matcher" 54 ⟨"TextPatterns$Matcher", "takeRepeated", "(LTextPatterns$Items;LTextPatterns$Row;I)I"⟩ : Cond) ∈ WALL := kw (i := 370) (by decide +kernel) (by decide +kernel)
theorem w_372 : (.instanceMethod ⟨"TextPatterns$Matcher", "takeRepeated", "(LTextPatterns$Items;LTextPatterns$Row;I)I"⟩ : Cond) ∈ WALL := kw (i := 372) (by decide +kernel) (by decide +kernel)
theorem w_373 : (.code ⟨"TextPatterns$Matcher", "takeRepeated", "(LTextPatterns$Items;LTextPatterns$Row;I)I"⟩ prog_3_method_9_code 8 (some .int) : Cond) ∈ WALL := kw (i := 373) (by decide +kernel) (by decide +kernel)
theorem w_374 : (.methodLink "TextPatterns$Matcher" 61 ⟨"TextPatterns$Matcher", "addChoice", "(II)V"⟩ : Cond) ∈ WALL := kw (i := 374) (by decide +kernel) (by decide +kernel)
theorem w_376 : (.instanceMethod ⟨"TextPatterns$Matcher", "addChoice", "(II)V"⟩ : Cond) ∈ WALL := kw (i := 376) (by decide +kernel) (by decide +kernel)
theorem w_377 : (.code ⟨"TextPatterns$Matcher", "addChoice", "(II)V"⟩ prog_3_method_18_code 3 none : Cond) ∈ WALL := kw (i := 377) (by decide +kernel) (by decide +kernel)
theorem w_378 : (.methodLink "TextPatterns$Matcher" 65 ⟨"TextPatterns$Items", "two", "(I)I"⟩ : Cond) ∈ WALL := kw (i := 378) (by decide +kernel) (by decide +kernel)
theorem w_379 : (.instanceMethod ⟨"TextPatterns$Items", "two", "(I)I"⟩ : Cond) ∈ WALL := kw (i := 379) (by decide +kernel) (by decide +kernel)
theorem w_380 : (.selects "TextPatterns$Items" ⟨"TextPatterns$Items", "two", "(I)I"⟩ ⟨"TextPatterns$Items", "two", "(I)I"⟩ : Cond) ∈ WALL := kw (i := 380) (by decide +kernel) (by decide +kernel)
theorem w_381 : (.code ⟨"TextPatterns$Items", "two", "(I)I"⟩ prog_2_method_5_code 2 (some .int) : Cond) ∈ WALL := kw (i := 381) (by decide +kernel) (by decide +kernel)
theorem w_382 : (.methodLink "TextPatterns$Matcher" 68 ⟨"TextPatterns$Matcher", "look", "(LTextPatterns$Items;LTextPatterns$Row;II)I"⟩ : Cond) ∈ WALL := kw (i := 382) (by decide +kernel) (by decide +kernel)
theorem w_384 : (.instanceMethod ⟨"TextPatterns$Matcher", "look", "(LTextPatterns$Items;LTextPatterns$Row;II)I"⟩ : Cond) ∈ WALL := kw (i := 384) (by decide +kernel) (by decide +kernel)
theorem w_385 : (.code ⟨"TextPatterns$Matcher", "look", "(LTextPatterns$Items;LTextPatterns$Row;II)I"⟩ prog_3_method_16_code 6 (some .int) : Cond) ∈ WALL := kw (i := 385) (by decide +kernel) (by decide +kernel)
theorem w_386 : (.methodLink "TextPatterns$Matcher" 108 ⟨"TextPatterns$Row", "at", "(I)I"⟩ : Cond) ∈ WALL := kw (i := 386) (by decide +kernel) (by decide +kernel)
theorem w_387 : (.methodLink "TextPatterns$Matcher" 104 ⟨"TextPatterns$Matcher", "mayLook", "()Z"⟩ : Cond) ∈ WALL := kw (i := 387) (by decide +kernel) (by decide +kernel)
theorem w_389 : (.instanceMethod ⟨"TextPatterns$Matcher", "mayLook", "()Z"⟩ : Cond) ∈ WALL := kw (i := 389) (by decide +kernel) (by decide +kernel)
theorem w_390 : (.code ⟨"TextPatterns$Matcher", "mayLook", "()Z"⟩ prog_3_method_17_code 1 (some .boolean) : Cond) ∈ WALL := kw (i := 390) (by decide +kernel) (by decide +kernel)
theorem w_391 : (.methodLink "TextPatterns$Matcher" 121 ⟨"TextPatterns$Sets", "holds", "(II)Z"⟩ : Cond) ∈ WALL := kw (i := 391) (by decide +kernel) (by decide +kernel)
theorem w_392 : (.instanceMethod ⟨"TextPatterns$Sets", "holds", "(II)Z"⟩ : Cond) ∈ WALL := kw (i := 392) (by decide +kernel) (by decide +kernel)
theorem w_393 : (.selects "TextPatterns$Sets" ⟨"TextPatterns$Sets", "holds", "(II)Z"⟩ ⟨"TextPatterns$Sets", "holds", "(II)Z"⟩ : Cond) ∈ WALL := kw (i := 393) (by decide +kernel) (by decide +kernel)
theorem w_394 : (.code ⟨"TextPatterns$Sets", "holds", "(II)Z"⟩ prog_5_method_2_code 4 (some .boolean) : Cond) ∈ WALL := kw (i := 394) (by decide +kernel) (by decide +kernel)
theorem w_395 : (.methodLink "TextPatterns$Matcher" 72 ⟨"TextPatterns$Items", "one", "(I)I"⟩ : Cond) ∈ WALL := kw (i := 395) (by decide +kernel) (by decide +kernel)
theorem w_396 : (.instanceMethod ⟨"TextPatterns$Items", "one", "(I)I"⟩ : Cond) ∈ WALL := kw (i := 396) (by decide +kernel) (by decide +kernel)
theorem w_397 : (.selects "TextPatterns$Items" ⟨"TextPatterns$Items", "one", "(I)I"⟩ ⟨"TextPatterns$Items", "one", "(I)I"⟩ : Cond) ∈ WALL := kw (i := 397) (by decide +kernel) (by decide +kernel)
theorem w_398 : (.code ⟨"TextPatterns$Items", "one", "(I)I"⟩ prog_2_method_4_code 2 (some .int) : Cond) ∈ WALL := kw (i := 398) (by decide +kernel) (by decide +kernel)
theorem w_399 : (.methodLink "TextPatterns$Matcher" 58 ⟨"TextPatterns$Matcher", "takeSpecial", "(LTextPatterns$Items;LTextPatterns$Row;I)I"⟩ : Cond) ∈ WALL := kw (i := 399) (by decide +kernel) (by decide +kernel)
theorem w_401 : (.instanceMethod ⟨"TextPatterns$Matcher", "takeSpecial", "(LTextPatterns$Items;LTextPatterns$Row;I)I"⟩ : Cond) ∈ WALL := kw (i := 401) (by decide +kernel) (by decide +kernel)
theorem w_402 : (.code ⟨"TextPatterns$Matcher", "takeSpecial", "(LTextPatterns$Items;LTextPatterns$Row;I)I"⟩ prog_3_method_10_code 4 (some .int) : Cond) ∈ WALL := kw (i := 402) (by decide +kernel) (by decide +kernel)
theorem w_403 : (.methodLink "TextPatterns$Matcher" 75 ⟨"TextPatterns$Matcher", "setStart", "(I)V"⟩ : Cond) ∈ WALL := kw (i := 403) (by decide +kernel) (by decide +kernel)
theorem w_405 : (.instanceMethod ⟨"TextPatterns$Matcher", "setStart", "(I)V"⟩ : Cond) ∈ WALL := kw (i := 405) (by decide +kernel) (by decide +kernel)
theorem w_406 : (.code ⟨"TextPatterns$Matcher", "setStart", "(I)V"⟩ prog_3_method_11_code 2 none : Cond) ∈ WALL := kw (i := 406) (by decide +kernel) (by decide +kernel)
theorem w_407 : (.methodLink "TextPatterns$Matcher" 79 ⟨"TextPatterns$Matcher", "setLength", "(I)V"⟩ : Cond) ∈ WALL := kw (i := 407) (by decide +kernel) (by decide +kernel)
theorem w_409 : (.instanceMethod ⟨"TextPatterns$Matcher", "setLength", "(I)V"⟩ : Cond) ∈ WALL := kw (i := 409) (by decide +kernel) (by decide +kernel)
theorem w_410 : (.code ⟨"TextPatterns$Matcher", "setLength", "(I)V"⟩ prog_3_method_12_code 2 none : Cond) ∈ WALL := kw (i := 410) (by decide +kernel) (by decide +kernel)
theorem w_411 : (.methodLink "TextPatterns$Matcher" 82 ⟨"TextPatterns$Matcher", "startOf", "(I)I"⟩ : Cond) ∈ WALL := kw (i := 411) (by decide +kernel) (by decide +kernel)
theorem w_412 : (.instanceMethod ⟨"TextPatterns$Matcher", "startOf", "(I)I"⟩ : Cond) ∈ WALL := kw (i := 412) (by decide +kernel) (by decide +kernel)
theorem w_413 : (.selects "TextPatterns$Matcher" ⟨"TextPatterns$Matcher", "startOf", "(I)I"⟩ ⟨"TextPatterns$Matcher", "startOf", "(I)I"⟩ : Cond) ∈ WALL := kw (i := 413) (by decide +kernel) (by decide +kernel)
theorem w_414 : (.code ⟨"TextPatterns$Matcher", "startOf", "(I)I"⟩ prog_3_method_5_code 2 (some .int) : Cond) ∈ WALL := kw (i := 414) (by decide +kernel) (by decide +kernel)
theorem w_415 : (.methodLink "TextPatterns$Matcher" 85 ⟨"TextPatterns$Matcher", "lengthOf", "(I)I"⟩ : Cond) ∈ WALL := kw (i := 415) (by decide +kernel) (by decide +kernel)
theorem w_416 : (.instanceMethod ⟨"TextPatterns$Matcher", "lengthOf", "(I)I"⟩ : Cond) ∈ WALL := kw (i := 416) (by decide +kernel) (by decide +kernel)
theorem w_417 : (.selects "TextPatterns$Matcher" ⟨"TextPatterns$Matcher", "lengthOf", "(I)I"⟩ ⟨"TextPatterns$Matcher", "lengthOf", "(I)I"⟩ : Cond) ∈ WALL := kw (i := 417) (by decide +kernel) (by decide +kernel)
theorem w_418 : (.code ⟨"TextPatterns$Matcher", "lengthOf", "(I)I"⟩ prog_3_method_6_code 2 (some .int) : Cond) ∈ WALL := kw (i := 418) (by decide +kernel) (by decide +kernel)
theorem w_419 : (.methodLink "TextPatterns$Matcher" 88 ⟨"TextPatterns$Matcher", "takeSame", "(LTextPatterns$Row;II)I"⟩ : Cond) ∈ WALL := kw (i := 419) (by decide +kernel) (by decide +kernel)
theorem w_421 : (.instanceMethod ⟨"TextPatterns$Matcher", "takeSame", "(LTextPatterns$Row;II)I"⟩ : Cond) ∈ WALL := kw (i := 421) (by decide +kernel) (by decide +kernel)
theorem w_422 : (.code ⟨"TextPatterns$Matcher", "takeSame", "(LTextPatterns$Row;II)I"⟩ prog_3_method_13_code 5 (some .int) : Cond) ∈ WALL := kw (i := 422) (by decide +kernel) (by decide +kernel)
theorem w_423 : (.methodLink "TextPatterns$Matcher" 98 ⟨"TextPatterns$Row", "length", "()I"⟩ : Cond) ∈ WALL := kw (i := 423) (by decide +kernel) (by decide +kernel)
theorem w_424 : (.methodLink "TextPatterns$Matcher" 92 ⟨"TextPatterns$Matcher", "takePair", "(LTextPatterns$Row;II)I"⟩ : Cond) ∈ WALL := kw (i := 424) (by decide +kernel) (by decide +kernel)
theorem w_426 : (.instanceMethod ⟨"TextPatterns$Matcher", "takePair", "(LTextPatterns$Row;II)I"⟩ : Cond) ∈ WALL := kw (i := 426) (by decide +kernel) (by decide +kernel)
theorem w_427 : (.code ⟨"TextPatterns$Matcher", "takePair", "(LTextPatterns$Row;II)I"⟩ prog_3_method_14_code 8 (some .int) : Cond) ∈ WALL := kw (i := 427) (by decide +kernel) (by decide +kernel)
theorem w_428 : (.methodLink "TextPatterns$Matcher" 95 ⟨"TextPatterns$Matcher", "lookAtBorder", "(LTextPatterns$Items;LTextPatterns$Row;)I"⟩ : Cond) ∈ WALL := kw (i := 428) (by decide +kernel) (by decide +kernel)
theorem w_430 : (.instanceMethod ⟨"TextPatterns$Matcher", "lookAtBorder", "(LTextPatterns$Items;LTextPatterns$Row;)I"⟩ : Cond) ∈ WALL := kw (i := 430) (by decide +kernel) (by decide +kernel)
theorem w_431 : (.code ⟨"TextPatterns$Matcher", "lookAtBorder", "(LTextPatterns$Items;LTextPatterns$Row;)I"⟩ prog_3_method_15_code 6 (some .int) : Cond) ∈ WALL := kw (i := 431) (by decide +kernel) (by decide +kernel)
theorem w_432 : (.methodLink "TextPatterns$Matcher" 111 ⟨"java/lang/Math", "max", "(II)I"⟩ : Cond) ∈ WALL := kw (i := 432) (by decide +kernel) (by decide +kernel)
theorem w_433 : (.methodLink "TextPatterns$Matcher" 45 ⟨"TextPatterns$Matcher", "tryNextWay", "(LTextPatterns$Items;LTextPatterns$Row;)I"⟩ : Cond) ∈ WALL := kw (i := 433) (by decide +kernel) (by decide +kernel)
theorem w_435 : (.instanceMethod ⟨"TextPatterns$Matcher", "tryNextWay", "(LTextPatterns$Items;LTextPatterns$Row;)I"⟩ : Cond) ∈ WALL := kw (i := 435) (by decide +kernel) (by decide +kernel)
theorem w_436 : (.code ⟨"TextPatterns$Matcher", "tryNextWay", "(LTextPatterns$Items;LTextPatterns$Row;)I"⟩ prog_3_method_19_code 5 (some .int) : Cond) ∈ WALL := kw (i := 436) (by decide +kernel) (by decide +kernel)
theorem w_437 : (.methodLink "TextPatterns$Matcher" 127 ⟨"TextPatterns$Matcher", "changeChoice", "(LTextPatterns$Items;LTextPatterns$Row;I)I"⟩ : Cond) ∈ WALL := kw (i := 437) (by decide +kernel) (by decide +kernel)
theorem w_439 : (.instanceMethod ⟨"TextPatterns$Matcher", "changeChoice", "(LTextPatterns$Items;LTextPatterns$Row;I)I"⟩ : Cond) ∈ WALL := kw (i := 439) (by decide +kernel) (by decide +kernel)
theorem w_440 : (.code ⟨"TextPatterns$Matcher", "changeChoice", "(LTextPatterns$Items;LTextPatterns$Row;I)I"⟩ prog_3_method_20_code 7 (some .int) : Cond) ∈ WALL := kw (i := 440) (by decide +kernel) (by decide +kernel)
theorem w_441 : (.methodLink "TextPatterns" 132 ⟨"TextPatterns$Matcher", "end", "()I"⟩ : Cond) ∈ WALL := kw (i := 441) (by decide +kernel) (by decide +kernel)
theorem w_442 : (.instanceMethod ⟨"TextPatterns$Matcher", "end", "()I"⟩ : Cond) ∈ WALL := kw (i := 442) (by decide +kernel) (by decide +kernel)
theorem w_443 : (.selects "TextPatterns$Matcher" ⟨"TextPatterns$Matcher", "end", "()I"⟩ ⟨"TextPatterns$Matcher", "end", "()I"⟩ : Cond) ∈ WALL := kw (i := 443) (by decide +kernel) (by decide +kernel)
theorem w_444 : (.code ⟨"TextPatterns$Matcher", "end", "()I"⟩ prog_3_method_4_code 1 (some .int) : Cond) ∈ WALL := kw (i := 444) (by decide +kernel) (by decide +kernel)
theorem w_448 : (.code ⟨"TextPatterns", "begin", "()V"⟩ prog_1_method_5_code 1 none : Cond) ∈ WALL := kw (i := 448) (by decide +kernel) (by decide +kernel)
theorem w_452 : (.code ⟨"TextPatterns", "next", "()I"⟩ prog_1_method_6_code 2 (some .int) : Cond) ∈ WALL := kw (i := 452) (by decide +kernel) (by decide +kernel)
theorem w_456 : (.code ⟨"TextPatterns", "replace", "(I)I"⟩ prog_1_method_7_code 4 (some .int) : Cond) ∈ WALL := kw (i := 456) (by decide +kernel) (by decide +kernel)
theorem w_457 : (.methodLink "TextPatterns" 97 ⟨"TextPatterns", "replaceMatches", "(IZ)I"⟩ : Cond) ∈ WALL := kw (i := 457) (by decide +kernel) (by decide +kernel)
theorem w_459 : (.instanceMethod ⟨"TextPatterns", "replaceMatches", "(IZ)I"⟩ : Cond) ∈ WALL := kw (i := 459) (by decide +kernel) (by decide +kernel)
theorem w_460 : (.code ⟨"TextPatterns", "replaceMatches", "(IZ)I"⟩ prog_1_method_19_code 9 (some .int) : Cond) ∈ WALL := kw (i := 460) (by decide +kernel) (by decide +kernel)
theorem w_461 : (.methodLink "TextPatterns" 135 ⟨"TextPatterns", "addReplacement", "(II)I"⟩ : Cond) ∈ WALL := kw (i := 461) (by decide +kernel) (by decide +kernel)
theorem w_463 : (.instanceMethod ⟨"TextPatterns", "addReplacement", "(II)I"⟩ : Cond) ∈ WALL := kw (i := 463) (by decide +kernel) (by decide +kernel)
theorem w_464 : (.code ⟨"TextPatterns", "addReplacement", "(II)I"⟩ prog_1_method_20_code 6 (some .int) : Cond) ∈ WALL := kw (i := 464) (by decide +kernel) (by decide +kernel)
theorem w_465 : (.methodLink "TextPatterns" 142 ⟨"TextPatterns", "addMarked", "(III)I"⟩ : Cond) ∈ WALL := kw (i := 465) (by decide +kernel) (by decide +kernel)
theorem w_467 : (.instanceMethod ⟨"TextPatterns", "addMarked", "(III)I"⟩ : Cond) ∈ WALL := kw (i := 467) (by decide +kernel) (by decide +kernel)
theorem w_468 : (.code ⟨"TextPatterns", "addMarked", "(III)I"⟩ prog_1_method_21_code 7 (some .int) : Cond) ∈ WALL := kw (i := 468) (by decide +kernel) (by decide +kernel)
theorem w_469 : (.methodLink "TextPatterns" 145 ⟨"TextPatterns", "addByte", "(I)I"⟩ : Cond) ∈ WALL := kw (i := 469) (by decide +kernel) (by decide +kernel)
theorem w_471 : (.instanceMethod ⟨"TextPatterns", "addByte", "(I)I"⟩ : Cond) ∈ WALL := kw (i := 471) (by decide +kernel) (by decide +kernel)
theorem w_472 : (.code ⟨"TextPatterns", "addByte", "(I)I"⟩ prog_1_method_24_code 2 (some .int) : Cond) ∈ WALL := kw (i := 472) (by decide +kernel) (by decide +kernel)
theorem w_473 : (.methodLink "TextPatterns" 107 ⟨"TextPatterns$Items", "captureCount", "()I"⟩ : Cond) ∈ WALL := kw (i := 473) (by decide +kernel) (by decide +kernel)
theorem w_474 : (.instanceMethod ⟨"TextPatterns$Items", "captureCount", "()I"⟩ : Cond) ∈ WALL := kw (i := 474) (by decide +kernel) (by decide +kernel)
theorem w_475 : (.selects "TextPatterns$Items" ⟨"TextPatterns$Items", "captureCount", "()I"⟩ ⟨"TextPatterns$Items", "captureCount", "()I"⟩ : Cond) ∈ WALL := kw (i := 475) (by decide +kernel) (by decide +kernel)
theorem w_476 : (.code ⟨"TextPatterns$Items", "captureCount", "()I"⟩ prog_2_method_2_code 1 (some .int) : Cond) ∈ WALL := kw (i := 476) (by decide +kernel) (by decide +kernel)
theorem w_477 : (.methodLink "TextPatterns" 139 ⟨"TextPatterns", "addText", "(II)I"⟩ : Cond) ∈ WALL := kw (i := 477) (by decide +kernel) (by decide +kernel)
theorem w_479 : (.instanceMethod ⟨"TextPatterns", "addText", "(II)I"⟩ : Cond) ∈ WALL := kw (i := 479) (by decide +kernel) (by decide +kernel)
theorem w_480 : (.code ⟨"TextPatterns", "addText", "(II)I"⟩ prog_1_method_23_code 5 (some .int) : Cond) ∈ WALL := kw (i := 480) (by decide +kernel) (by decide +kernel)
theorem w_481 : (.methodLink "TextPatterns" 110 ⟨"TextPatterns$Matcher", "startOf", "(I)I"⟩ : Cond) ∈ WALL := kw (i := 481) (by decide +kernel) (by decide +kernel)
theorem w_482 : (.methodLink "TextPatterns" 114 ⟨"TextPatterns$Matcher", "lengthOf", "(I)I"⟩ : Cond) ∈ WALL := kw (i := 482) (by decide +kernel) (by decide +kernel)
theorem w_483 : (.methodLink "TextPatterns" 148 ⟨"TextPatterns", "addNumber", "(I)I"⟩ : Cond) ∈ WALL := kw (i := 483) (by decide +kernel) (by decide +kernel)
theorem w_485 : (.instanceMethod ⟨"TextPatterns", "addNumber", "(I)I"⟩ : Cond) ∈ WALL := kw (i := 485) (by decide +kernel) (by decide +kernel)
theorem w_486 : (.code ⟨"TextPatterns", "addNumber", "(I)I"⟩ prog_1_method_22_code 4 (some .int) : Cond) ∈ WALL := kw (i := 486) (by decide +kernel) (by decide +kernel)
theorem w_490 : (.code ⟨"TextPatterns", "looks", "()I"⟩ prog_1_method_8_code 1 (some .int) : Cond) ∈ WALL := kw (i := 490) (by decide +kernel) (by decide +kernel)
theorem w_491 : (.methodLink "TextPatterns" 101 ⟨"TextPatterns$Matcher", "looksMade", "()I"⟩ : Cond) ∈ WALL := kw (i := 491) (by decide +kernel) (by decide +kernel)
theorem w_492 : (.instanceMethod ⟨"TextPatterns$Matcher", "looksMade", "()I"⟩ : Cond) ∈ WALL := kw (i := 492) (by decide +kernel) (by decide +kernel)
theorem w_493 : (.selects "TextPatterns$Matcher" ⟨"TextPatterns$Matcher", "looksMade", "()I"⟩ ⟨"TextPatterns$Matcher", "looksMade", "()I"⟩ : Cond) ∈ WALL := kw (i := 493) (by decide +kernel) (by decide +kernel)
theorem w_494 : (.code ⟨"TextPatterns$Matcher", "looksMade", "()I"⟩ prog_3_method_3_code 1 (some .int) : Cond) ∈ WALL := kw (i := 494) (by decide +kernel) (by decide +kernel)
theorem w_498 : (.code ⟨"TextPatterns", "first", "()I"⟩ prog_1_method_9_code 1 (some .int) : Cond) ∈ WALL := kw (i := 498) (by decide +kernel) (by decide +kernel)
theorem w_502 : (.code ⟨"TextPatterns", "last", "()I"⟩ prog_1_method_10_code 1 (some .int) : Cond) ∈ WALL := kw (i := 502) (by decide +kernel) (by decide +kernel)
theorem w_506 : (.code ⟨"TextPatterns", "captures", "()I"⟩ prog_1_method_11_code 1 (some .int) : Cond) ∈ WALL := kw (i := 506) (by decide +kernel) (by decide +kernel)
theorem w_510 : (.code ⟨"TextPatterns", "capture", "(II)I"⟩ prog_1_method_12_code 3 (some .int) : Cond) ∈ WALL := kw (i := 510) (by decide +kernel) (by decide +kernel)
theorem w_514 : (.code ⟨"TextPatterns", "size", "()I"⟩ prog_1_method_13_code 1 (some .int) : Cond) ∈ WALL := kw (i := 514) (by decide +kernel) (by decide +kernel)
theorem w_518 : (.code ⟨"TextPatterns", "result", "(I)I"⟩ prog_1_method_14_code 3 (some .int) : Cond) ∈ WALL := kw (i := 518) (by decide +kernel) (by decide +kernel)
theorem w_522 : (.code ⟨"TextPatterns", "single", "(I)I"⟩ prog_1_method_15_code 3 (some .int) : Cond) ∈ WALL := kw (i := 522) (by decide +kernel) (by decide +kernel)
theorem w_523 : (.methodLink "TextPatterns" 120 ⟨"TextPatterns$Sets", "readSingle", "(ILTextPatterns$Row;I)I"⟩ : Cond) ∈ WALL := kw (i := 523) (by decide +kernel) (by decide +kernel)
theorem w_524 : (.methodLink "TextPatterns" 124 ⟨"TextPatterns$Sets", "holds", "(II)Z"⟩ : Cond) ∈ WALL := kw (i := 524) (by decide +kernel) (by decide +kernel)
theorem w_529 : (.code ⟨"TextPatternsModel", "<init>", "()V"⟩ prog_7_method_1_code 1 none : Cond) ∈ WALL := kw (i := 529) (by decide +kernel) (by decide +kernel)
theorem w_530 : (.methodLink "TextPatternsModel" 1 ⟨"java/lang/Object", "<init>", "()V"⟩ : Cond) ∈ WALL := kw (i := 530) (by decide +kernel) (by decide +kernel)
theorem w_531 : (.fieldLink "TextPatternsModel" 7 "TextPatternsModel" "rows" "[B" : Cond) ∈ WALL := kw (i := 531) (by decide +kernel) (by decide +kernel)
theorem w_532 : (.fieldLink "TextPatternsModel" 13 "TextPatternsModel" "sizes" "[I" : Cond) ∈ WALL := kw (i := 532) (by decide +kernel) (by decide +kernel)
theorem w_533 : (.fieldLink "TextPatternsModel" 17 "TextPatternsModel" "made" "[B" : Cond) ∈ WALL := kw (i := 533) (by decide +kernel) (by decide +kernel)
theorem w_534 : (.fieldLink "TextPatternsModel" 174 "TextPatternsModel" "madeSize" "I" : Cond) ∈ WALL := kw (i := 534) (by decide +kernel) (by decide +kernel)
theorem w_535 : (.fieldLink "TextPatternsModel" 20 "TextPatternsModel" "begins" "[I" : Cond) ∈ WALL := kw (i := 535) (by decide +kernel) (by decide +kernel)
theorem w_536 : (.fieldLink "TextPatternsModel" 23 "TextPatternsModel" "places" "[I" : Cond) ∈ WALL := kw (i := 536) (by decide +kernel) (by decide +kernel)
theorem w_537 : (.fieldLink "TextPatternsModel" 26 "TextPatternsModel" "kinds" "[I" : Cond) ∈ WALL := kw (i := 537) (by decide +kernel) (by decide +kernel)
theorem w_538 : (.fieldLink "TextPatternsModel" 29 "TextPatternsModel" "nexts" "[I" : Cond) ∈ WALL := kw (i := 538) (by decide +kernel) (by decide +kernel)
theorem w_539 : (.fieldLink "TextPatternsModel" 32 "TextPatternsModel" "choices" "[I" : Cond) ∈ WALL := kw (i := 539) (by decide +kernel) (by decide +kernel)
theorem w_540 : (.fieldLink "TextPatternsModel" 35 "TextPatternsModel" "leasts" "[I" : Cond) ∈ WALL := kw (i := 540) (by decide +kernel) (by decide +kernel)
theorem w_541 : (.fieldLink "TextPatternsModel" 108 "TextPatternsModel" "depth" "I" : Cond) ∈ WALL := kw (i := 541) (by decide +kernel) (by decide +kernel)
theorem w_542 : (.fieldLink "TextPatternsModel" 146 "TextPatternsModel" "end" "I" : Cond) ∈ WALL := kw (i := 542) (by decide +kernel) (by decide +kernel)
theorem w_543 : (.fieldLink "TextPatternsModel" 38 "TextPatternsModel" "captureBegins" "[I" : Cond) ∈ WALL := kw (i := 543) (by decide +kernel) (by decide +kernel)
theorem w_544 : (.fieldLink "TextPatternsModel" 41 "TextPatternsModel" "captureLengths" "[I" : Cond) ∈ WALL := kw (i := 544) (by decide +kernel) (by decide +kernel)
theorem w_545 : (.fieldLink "TextPatternsModel" 101 "TextPatternsModel" "captureCount" "I" : Cond) ∈ WALL := kw (i := 545) (by decide +kernel) (by decide +kernel)
theorem w_546 : (.fieldLink "TextPatternsModel" 87 "TextPatternsModel" "looks" "I" : Cond) ∈ WALL := kw (i := 546) (by decide +kernel) (by decide +kernel)
theorem w_547 : (.fieldLink "TextPatternsModel" 91 "TextPatternsModel" "trouble" "I" : Cond) ∈ WALL := kw (i := 547) (by decide +kernel) (by decide +kernel)
theorem w_548 : (.fieldLink "TextPatternsModel" 55 "TextPatternsModel" "found" "Z" : Cond) ∈ WALL := kw (i := 548) (by decide +kernel) (by decide +kernel)
theorem w_549 : (.fieldLink "TextPatternsModel" 158 "TextPatternsModel" "first" "I" : Cond) ∈ WALL := kw (i := 549) (by decide +kernel) (by decide +kernel)
theorem w_550 : (.fieldLink "TextPatternsModel" 171 "TextPatternsModel" "from" "I" : Cond) ∈ WALL := kw (i := 550) (by decide +kernel) (by decide +kernel)
theorem w_551 : (.fieldLink "TextPatternsModel" 44 "TextPatternsModel" "ended" "I" : Cond) ∈ WALL := kw (i := 551) (by decide +kernel) (by decide +kernel)
theorem w_598 : (.code ⟨"TextPatternsModel", "type", "(IJI)I"⟩ prog_7_method_4_code 6 (some .int) : Cond) ∈ WALL := kw (i := 598) (by decide +kernel) (by decide +kernel)
theorem w_599 : (.methodLink "TextPatternsModel" 48 ⟨"TextPatternsModel", "most", "(I)I"⟩ : Cond) ∈ WALL := kw (i := 599) (by decide +kernel) (by decide +kernel)
theorem w_600 : (.static ⟨"TextPatternsModel", "most", "(I)I"⟩ : Cond) ∈ WALL := kw (i := 600) (by decide +kernel) (by decide +kernel)
theorem w_601 : (.code ⟨"TextPatternsModel", "most", "(I)I"⟩ prog_7_method_2_code 1 (some .int) : Cond) ∈ WALL := kw (i := 601) (by decide +kernel) (by decide +kernel)
theorem w_602 : (.methodLink "TextPatternsModel" 52 ⟨"TextPatternsModel", "beginOf", "(I)I"⟩ : Cond) ∈ WALL := kw (i := 602) (by decide +kernel) (by decide +kernel)
theorem w_603 : (.static ⟨"TextPatternsModel", "beginOf", "(I)I"⟩ : Cond) ∈ WALL := kw (i := 603) (by decide +kernel) (by decide +kernel)
theorem w_604 : (.code ⟨"TextPatternsModel", "beginOf", "(I)I"⟩ prog_7_method_3_code 1 (some .int) : Cond) ∈ WALL := kw (i := 604) (by decide +kernel) (by decide +kernel)
theorem w_608 : (.code ⟨"TextPatternsModel", "clear", "(I)I"⟩ prog_7_method_5_code 3 (some .int) : Cond) ∈ WALL := kw (i := 608) (by decide +kernel) (by decide +kernel)
theorem w_616 : (.code ⟨"TextPatternsModel", "isAnchored", "()Z"⟩ prog_7_method_32_code 1 (some .boolean) : Cond) ∈ WALL := kw (i := 616) (by decide +kernel) (by decide +kernel)
theorem w_617 : (.methodLink "TextPatternsModel" 74 ⟨"TextPatternsModel", "pattern", "(I)I"⟩ : Cond) ∈ WALL := kw (i := 617) (by decide +kernel) (by decide +kernel)
theorem w_619 : (.instanceMethod ⟨"TextPatternsModel", "pattern", "(I)I"⟩ : Cond) ∈ WALL := kw (i := 619) (by decide +kernel) (by decide +kernel)
theorem w_620 : (.code ⟨"TextPatternsModel", "pattern", "(I)I"⟩ prog_7_method_7_code 2 (some .int) : Cond) ∈ WALL := kw (i := 620) (by decide +kernel) (by decide +kernel)
theorem w_621 : (.methodLink "TextPatternsModel" 59 ⟨"TextPatternsModel", "at", "(II)I"⟩ : Cond) ∈ WALL := kw (i := 621) (by decide +kernel) (by decide +kernel)
theorem w_623 : (.instanceMethod ⟨"TextPatternsModel", "at", "(II)I"⟩ : Cond) ∈ WALL := kw (i := 623) (by decide +kernel) (by decide +kernel)
theorem w_624 : (.code ⟨"TextPatternsModel", "at", "(II)I"⟩ prog_7_method_6_code 3 (some .int) : Cond) ∈ WALL := kw (i := 624) (by decide +kernel) (by decide +kernel)
theorem w_640 : (.code ⟨"TextPatternsModel", "lastOpen", "()I"⟩ prog_7_method_19_code 2 (some .int) : Cond) ∈ WALL := kw (i := 640) (by decide +kernel) (by decide +kernel)
theorem w_652 : (.code ⟨"TextPatternsModel", "wrong", "()I"⟩ prog_7_method_21_code 1 (some .int) : Cond) ∈ WALL := kw (i := 652) (by decide +kernel) (by decide +kernel)
theorem w_656 : (.code ⟨"TextPatternsModel", "settle", "(III)I"⟩ prog_7_method_20_code 4 (some .int) : Cond) ∈ WALL := kw (i := 656) (by decide +kernel) (by decide +kernel)
theorem w_665 : (.methodLink "TextPatternsModel" 94 ⟨"TextPatternsModel", "look", "()Z"⟩ : Cond) ∈ WALL := kw (i := 665) (by decide +kernel) (by decide +kernel)
theorem w_667 : (.instanceMethod ⟨"TextPatternsModel", "look", "()Z"⟩ : Cond) ∈ WALL := kw (i := 667) (by decide +kernel) (by decide +kernel)
theorem w_668 : (.code ⟨"TextPatternsModel", "look", "()Z"⟩ prog_7_method_16_code 1 (some .boolean) : Cond) ∈ WALL := kw (i := 668) (by decide +kernel) (by decide +kernel)
theorem w_669 : (.constant "TextPatternsModel" 90 100000 : Cond) ∈ WALL := kw (i := 669) (by decide +kernel) (by decide +kernel)
theorem w_674 : (.methodLink "TextPatternsModel" 81 ⟨"TextPatternsModel", "closing", "(I)I"⟩ : Cond) ∈ WALL := kw (i := 674) (by decide +kernel) (by decide +kernel)
theorem w_676 : (.instanceMethod ⟨"TextPatternsModel", "closing", "(I)I"⟩ : Cond) ∈ WALL := kw (i := 676) (by decide +kernel) (by decide +kernel)
theorem w_677 : (.code ⟨"TextPatternsModel", "closing", "(I)I"⟩ prog_7_method_12_code 4 (some .int) : Cond) ∈ WALL := kw (i := 677) (by decide +kernel) (by decide +kernel)
theorem w_678 : (.methodLink "TextPatternsModel" 84 ⟨"TextPatternsModel", "setHas", "(III)Z"⟩ : Cond) ∈ WALL := kw (i := 678) (by decide +kernel) (by decide +kernel)
theorem w_680 : (.instanceMethod ⟨"TextPatternsModel", "setHas", "(III)Z"⟩ : Cond) ∈ WALL := kw (i := 680) (by decide +kernel) (by decide +kernel)
theorem w_681 : (.code ⟨"TextPatternsModel", "setHas", "(III)Z"⟩ prog_7_method_13_code 7 (some .boolean) : Cond) ∈ WALL := kw (i := 681) (by decide +kernel) (by decide +kernel)
theorem w_682 : (.methodLink "TextPatternsModel" 77 ⟨"TextPatternsModel", "classHas", "(II)Z"⟩ : Cond) ∈ WALL := kw (i := 682) (by decide +kernel) (by decide +kernel)
theorem w_683 : (.static ⟨"TextPatternsModel", "classHas", "(II)Z"⟩ : Cond) ∈ WALL := kw (i := 683) (by decide +kernel) (by decide +kernel)
theorem w_684 : (.code ⟨"TextPatternsModel", "classHas", "(II)Z"⟩ prog_7_method_11_code 4 (some .boolean) : Cond) ∈ WALL := kw (i := 684) (by decide +kernel) (by decide +kernel)
theorem w_685 : (.methodLink "TextPatternsModel" 63 ⟨"TextPatternsModel", "isBetween", "(III)Z"⟩ : Cond) ∈ WALL := kw (i := 685) (by decide +kernel) (by decide +kernel)
theorem w_686 : (.static ⟨"TextPatternsModel", "isBetween", "(III)Z"⟩ : Cond) ∈ WALL := kw (i := 686) (by decide +kernel) (by decide +kernel)
theorem w_687 : (.code ⟨"TextPatternsModel", "isBetween", "(III)Z"⟩ prog_7_method_8_code 3 (some .boolean) : Cond) ∈ WALL := kw (i := 687) (by decide +kernel) (by decide +kernel)
theorem w_688 : (.methodLink "TextPatternsModel" 67 ⟨"TextPatternsModel", "isLetter", "(I)Z"⟩ : Cond) ∈ WALL := kw (i := 688) (by decide +kernel) (by decide +kernel)
theorem w_689 : (.static ⟨"TextPatternsModel", "isLetter", "(I)Z"⟩ : Cond) ∈ WALL := kw (i := 689) (by decide +kernel) (by decide +kernel)
theorem w_690 : (.code ⟨"TextPatternsModel", "isLetter", "(I)Z"⟩ prog_7_method_9_code 1 (some .boolean) : Cond) ∈ WALL := kw (i := 690) (by decide +kernel) (by decide +kernel)
theorem w_691 : (.methodLink "TextPatternsModel" 71 ⟨"TextPatternsModel", "isDigit", "(I)Z"⟩ : Cond) ∈ WALL := kw (i := 691) (by decide +kernel) (by decide +kernel)
theorem w_692 : (.static ⟨"TextPatternsModel", "isDigit", "(I)Z"⟩ : Cond) ∈ WALL := kw (i := 692) (by decide +kernel) (by decide +kernel)
theorem w_693 : (.code ⟨"TextPatternsModel", "isDigit", "(I)Z"⟩ prog_7_method_10_code 1 (some .boolean) : Cond) ∈ WALL := kw (i := 693) (by decide +kernel) (by decide +kernel)
theorem w_702 : (.methodLink "TextPatternsModel" 122 ⟨"TextPatternsModel", "behindSingle", "(I)I"⟩ : Cond) ∈ WALL := kw (i := 702) (by decide +kernel) (by decide +kernel)
theorem w_704 : (.instanceMethod ⟨"TextPatternsModel", "behindSingle", "(I)I"⟩ : Cond) ∈ WALL := kw (i := 704) (by decide +kernel) (by decide +kernel)
theorem w_705 : (.code ⟨"TextPatternsModel", "behindSingle", "(I)I"⟩ prog_7_method_14_code 2 (some .int) : Cond) ∈ WALL := kw (i := 705) (by decide +kernel) (by decide +kernel)
theorem w_709 : (.code ⟨"TextPatternsModel", "isThere", "(II)Z"⟩ prog_7_method_17_code 3 (some .boolean) : Cond) ∈ WALL := kw (i := 709) (by decide +kernel) (by decide +kernel)
theorem w_710 : (.methodLink "TextPatternsModel" 98 ⟨"TextPatternsModel", "singleHas", "(II)Z"⟩ : Cond) ∈ WALL := kw (i := 710) (by decide +kernel) (by decide +kernel)
theorem w_712 : (.instanceMethod ⟨"TextPatternsModel", "singleHas", "(II)Z"⟩ : Cond) ∈ WALL := kw (i := 712) (by decide +kernel) (by decide +kernel)
theorem w_713 : (.code ⟨"TextPatternsModel", "singleHas", "(II)Z"⟩ prog_7_method_15_code 4 (some .boolean) : Cond) ∈ WALL := kw (i := 713) (by decide +kernel) (by decide +kernel)
theorem w_725 : (.code ⟨"TextPatternsModel", "begin", "()V"⟩ prog_7_method_35_code 1 none : Cond) ∈ WALL := kw (i := 725) (by decide +kernel) (by decide +kernel)
theorem w_757 : (.code ⟨"TextPatternsModel", "looks", "()I"⟩ prog_7_method_43_code 1 (some .int) : Cond) ∈ WALL := kw (i := 757) (by decide +kernel) (by decide +kernel)
theorem w_761 : (.code ⟨"TextPatternsModel", "first", "()I"⟩ prog_7_method_44_code 1 (some .int) : Cond) ∈ WALL := kw (i := 761) (by decide +kernel) (by decide +kernel)
theorem w_765 : (.code ⟨"TextPatternsModel", "last", "()I"⟩ prog_7_method_45_code 1 (some .int) : Cond) ∈ WALL := kw (i := 765) (by decide +kernel) (by decide +kernel)
theorem w_769 : (.code ⟨"TextPatternsModel", "captures", "()I"⟩ prog_7_method_46_code 1 (some .int) : Cond) ∈ WALL := kw (i := 769) (by decide +kernel) (by decide +kernel)
theorem w_773 : (.code ⟨"TextPatternsModel", "capture", "(II)I"⟩ prog_7_method_47_code 3 (some .int) : Cond) ∈ WALL := kw (i := 773) (by decide +kernel) (by decide +kernel)
theorem w_777 : (.code ⟨"TextPatternsModel", "size", "()I"⟩ prog_7_method_48_code 1 (some .int) : Cond) ∈ WALL := kw (i := 777) (by decide +kernel) (by decide +kernel)
theorem w_781 : (.code ⟨"TextPatternsModel", "result", "(I)I"⟩ prog_7_method_49_code 2 (some .int) : Cond) ∈ WALL := kw (i := 781) (by decide +kernel) (by decide +kernel)
theorem w_785 : (.code ⟨"TextPatternsModel", "single", "(I)I"⟩ prog_7_method_50_code 2 (some .int) : Cond) ∈ WALL := kw (i := 785) (by decide +kernel) (by decide +kernel)
