abbrev RX0 : String := "TextPatterns$Row"
def TX0 : u_T := fun k => match k with
  | 0 => ("TextPatterns$Row", "bytes", "[B", true)
  | _ => ("TextPatterns$Row", "length", "I", false)
def tyX0 : Nat → FieldType := fun k => match k with
  | 0 => .array .byte
  | _ => .int
theorem nmX0 : ∀ a, a < 2 → ∀ b, b < 2 → a ≠ b → (TX0 a).2.1 ≠ (TX0 b).2.1 := by decide +kernel
theorem tyX0_ok : ∀ k, k < 2 → parseFieldDescriptor (TX0 k).2.2.1 = some (tyX0 k) := by decide +kernel
theorem inX0 : ∀ w ∈ u_ws RX0 TX0 2, w ∈ WALL := by decide +kernel
abbrev RX1 : String := "TextPatterns$Sets"
def TX1 : u_T := fun k => match k with
  | _ => ("TextPatterns$Sets", "words", "[J", true)
def tyX1 : Nat → FieldType := fun k => match k with
  | _ => .array .long
theorem nmX1 : ∀ a, a < 1 → ∀ b, b < 1 → a ≠ b → (TX1 a).2.1 ≠ (TX1 b).2.1 := by decide +kernel
theorem tyX1_ok : ∀ k, k < 1 → parseFieldDescriptor (TX1 k).2.2.1 = some (tyX1 k) := by decide +kernel
theorem inX1 : ∀ w ∈ u_ws RX1 TX1 1, w ∈ WALL := by decide +kernel
abbrev RX2 : String := "TextPatterns$Items"
def TX2 : u_T := fun k => match k with
  | 0 => ("TextPatterns$Items", "kinds", "[I", true)
  | 1 => ("TextPatterns$Items", "ones", "[I", true)
  | 2 => ("TextPatterns$Items", "twos", "[I", true)
  | 3 => ("TextPatterns$Items", "sets", "LTextPatterns$Sets;", true)
  | 4 => ("TextPatterns$Items", "states", "[I", true)
  | 5 => ("TextPatterns$Items", "count", "I", false)
  | _ => ("TextPatterns$Items", "captureCount", "I", false)
def tyX2 : Nat → FieldType := fun k => match k with
  | 0 => .array .int
  | 1 => .array .int
  | 2 => .array .int
  | 3 => .object "TextPatterns$Sets"
  | 4 => .array .int
  | 5 => .int
  | _ => .int
theorem nmX2 : ∀ a, a < 7 → ∀ b, b < 7 → a ≠ b → (TX2 a).2.1 ≠ (TX2 b).2.1 := by decide +kernel
theorem tyX2_ok : ∀ k, k < 7 → parseFieldDescriptor (TX2 k).2.2.1 = some (tyX2 k) := by decide +kernel
theorem inX2 : ∀ w ∈ u_ws RX2 TX2 7, w ∈ WALL := by decide +kernel
abbrev RX3 : String := "TextPatterns$Matcher"
def TX3 : u_T := fun k => match k with
  | 0 => ("TextPatterns$Matcher", "choiceItems", "[I", true)
  | 1 => ("TextPatterns$Matcher", "choiceLeast", "[I", true)
  | 2 => ("TextPatterns$Matcher", "choicePlaces", "[I", true)
  | 3 => ("TextPatterns$Matcher", "starts", "[I", true)
  | 4 => ("TextPatterns$Matcher", "lengths", "[I", true)
  | 5 => ("TextPatterns$Matcher", "choices", "I", false)
  | 6 => ("TextPatterns$Matcher", "item", "I", false)
  | 7 => ("TextPatterns$Matcher", "place", "I", false)
  | _ => ("TextPatterns$Matcher", "looks", "I", false)
def tyX3 : Nat → FieldType := fun k => match k with
  | 0 => .array .int
  | 1 => .array .int
  | 2 => .array .int
  | 3 => .array .int
  | 4 => .array .int
  | 5 => .int
  | 6 => .int
  | 7 => .int
  | _ => .int
theorem nmX3 : ∀ a, a < 9 → ∀ b, b < 9 → a ≠ b → (TX3 a).2.1 ≠ (TX3 b).2.1 := by decide +kernel
theorem tyX3_ok : ∀ k, k < 9 → parseFieldDescriptor (TX3 k).2.2.1 = some (tyX3 k) := by decide +kernel
theorem inX3 : ∀ w ∈ u_ws RX3 TX3 9, w ∈ WALL := by decide +kernel
abbrev RX4 : String := "TextPatterns"
def TX4 : u_T := fun k => match k with
  | 0 => ("TextPatterns", "text", "LTextPatterns$Row;", true)
  | 1 => ("TextPatterns", "pattern", "LTextPatterns$Row;", true)
  | 2 => ("TextPatterns", "replacement", "LTextPatterns$Row;", true)
  | 3 => ("TextPatterns", "output", "LTextPatterns$Row;", true)
  | 4 => ("TextPatterns", "items", "LTextPatterns$Items;", true)
  | 5 => ("TextPatterns", "matcher", "LTextPatterns$Matcher;", true)
  | 6 => ("TextPatterns", "lone", "LTextPatterns$Sets;", true)
  | 7 => ("TextPatterns", "matched", "Z", false)
  | 8 => ("TextPatterns", "matchFirst", "I", false)
  | 9 => ("TextPatterns", "matchLast", "I", false)
  | 10 => ("TextPatterns", "nextPlace", "I", false)
  | 11 => ("TextPatterns", "nextEnd", "I", false)
  | _ => ("TextPatterns", "nextOver", "Z", false)
def tyX4 : Nat → FieldType := fun k => match k with
  | 0 => .object "TextPatterns$Row"
  | 1 => .object "TextPatterns$Row"
  | 2 => .object "TextPatterns$Row"
  | 3 => .object "TextPatterns$Row"
  | 4 => .object "TextPatterns$Items"
  | 5 => .object "TextPatterns$Matcher"
  | 6 => .object "TextPatterns$Sets"
  | 7 => .boolean
  | 8 => .int
  | 9 => .int
  | 10 => .int
  | 11 => .int
  | _ => .boolean
theorem nmX4 : ∀ a, a < 13 → ∀ b, b < 13 → a ≠ b → (TX4 a).2.1 ≠ (TX4 b).2.1 := by decide +kernel
theorem tyX4_ok : ∀ k, k < 13 → parseFieldDescriptor (TX4 k).2.2.1 = some (tyX4 k) := by decide +kernel
theorem inX4 : ∀ w ∈ u_ws RX4 TX4 13, w ∈ WALL := by decide +kernel
abbrev RX5 : String := "TextPatternsModel"
def TX5 : u_T := fun k => match k with
  | 0 => ("TextPatternsModel", "rows", "[B", true)
  | 1 => ("TextPatternsModel", "sizes", "[I", true)
  | 2 => ("TextPatternsModel", "made", "[B", true)
  | 3 => ("TextPatternsModel", "madeSize", "I", false)
  | 4 => ("TextPatternsModel", "begins", "[I", true)
  | 5 => ("TextPatternsModel", "places", "[I", true)
  | 6 => ("TextPatternsModel", "kinds", "[I", true)
  | 7 => ("TextPatternsModel", "nexts", "[I", true)
  | 8 => ("TextPatternsModel", "choices", "[I", true)
  | 9 => ("TextPatternsModel", "leasts", "[I", true)
  | 10 => ("TextPatternsModel", "depth", "I", false)
  | 11 => ("TextPatternsModel", "end", "I", false)
  | 12 => ("TextPatternsModel", "captureBegins", "[I", true)
  | 13 => ("TextPatternsModel", "captureLengths", "[I", true)
  | 14 => ("TextPatternsModel", "captureCount", "I", false)
  | 15 => ("TextPatternsModel", "looks", "I", false)
  | 16 => ("TextPatternsModel", "trouble", "I", false)
  | 17 => ("TextPatternsModel", "found", "Z", false)
  | 18 => ("TextPatternsModel", "first", "I", false)
  | 19 => ("TextPatternsModel", "from", "I", false)
  | _ => ("TextPatternsModel", "ended", "I", false)
def tyX5 : Nat → FieldType := fun k => match k with
  | 0 => .array .byte
  | 1 => .array .int
  | 2 => .array .byte
  | 3 => .int
  | 4 => .array .int
  | 5 => .array .int
  | 6 => .array .int
  | 7 => .array .int
  | 8 => .array .int
  | 9 => .array .int
  | 10 => .int
  | 11 => .int
  | 12 => .array .int
  | 13 => .array .int
  | 14 => .int
  | 15 => .int
  | 16 => .int
  | 17 => .boolean
  | 18 => .int
  | 19 => .int
  | _ => .int
theorem nmX5 : ∀ a, a < 21 → ∀ b, b < 21 → a ≠ b → (TX5 a).2.1 ≠ (TX5 b).2.1 := by decide +kernel
theorem tyX5_ok : ∀ k, k < 21 → parseFieldDescriptor (TX5 k).2.2.1 = some (tyX5 k) := by decide +kernel
theorem inX5 : ∀ w ∈ u_ws RX5 TX5 21, w ∈ WALL := by decide +kernel
abbrev vwCl : List vw_C := [(RX0, TX0, 2), (RX1, TX1, 1), (RX2, TX2, 7), (RX3, TX3, 9), (RX4, TX4, 13), (RX5, TX5, 21)]
abbrev cX0_length : ByteArray := prog_4_method_2_code
abbrev yX0_length : MethodName := ⟨"TextPatterns$Row", "length", "()I"⟩
abbrev wsX0_length : List Cond := .code yX0_length cX0_length 1 (some .int) :: WALL
abbrev cX0_room : ByteArray := prog_4_method_3_code
abbrev yX0_room : MethodName := ⟨"TextPatterns$Row", "room", "()I"⟩
abbrev wsX0_room : List Cond := .code yX0_room cX0_room 1 (some .int) :: WALL
abbrev cX0_empty : ByteArray := prog_4_method_4_code
abbrev yX0_empty : MethodName := ⟨"TextPatterns$Row", "empty", "()V"⟩
abbrev wsX0_empty : List Cond := .code yX0_empty cX0_empty 1 none :: WALL
abbrev cX0_add : ByteArray := prog_4_method_5_code
abbrev yX0_add : MethodName := ⟨"TextPatterns$Row", "add", "(I)V"⟩
abbrev wsX0_add : List Cond := .code yX0_add cX0_add 2 none :: WALL
abbrev cX0_at : ByteArray := prog_4_method_6_code
abbrev yX0_at : MethodName := ⟨"TextPatterns$Row", "at", "(I)I"⟩
abbrev wsX0_at : List Cond := .code yX0_at cX0_at 2 (some .int) :: WALL
abbrev cX1_spanBits : ByteArray := prog_5_method_9_code
abbrev yX1_spanBits : MethodName := ⟨"TextPatterns$Sets", "spanBits", "(III)J"⟩
abbrev wsX1_spanBits : List Cond := .code yX1_spanBits cX1_spanBits 5 (some .long) :: WALL
abbrev cX1_holds : ByteArray := prog_5_method_2_code
abbrev yX1_holds : MethodName := ⟨"TextPatterns$Sets", "holds", "(II)Z"⟩
abbrev wsX1_holds : List Cond := .code yX1_holds cX1_holds 4 (some .boolean) :: WALL
abbrev cX1_addBits : ByteArray := prog_5_method_10_code
abbrev yX1_addBits : MethodName := ⟨"TextPatterns$Sets", "addBits", "(IIJ)V"⟩
abbrev wsX1_addBits : List Cond := .code yX1_addBits cX1_addBits 6 none :: WALL
abbrev cX1_empty : ByteArray := prog_5_method_11_code
abbrev yX1_empty : MethodName := ⟨"TextPatterns$Sets", "empty", "(I)V"⟩
abbrev wsX1_empty : List Cond := .code yX1_empty cX1_empty 4 none :: WALL
abbrev cX1_turn : ByteArray := prog_5_method_12_code
abbrev yX1_turn : MethodName := ⟨"TextPatterns$Sets", "turn", "(I)V"⟩
abbrev wsX1_turn : List Cond := .code yX1_turn cX1_turn 4 none :: WALL
abbrev cX1_addSpan : ByteArray := prog_5_method_8_code
abbrev yX1_addSpan : MethodName := ⟨"TextPatterns$Sets", "addSpan", "(III)V"⟩
abbrev wsX1_addSpan : List Cond := .code yX1_addSpan cX1_addSpan 5 none :: WALL
abbrev cX1_addNamed : ByteArray := prog_5_method_7_code
abbrev yX1_addNamed : MethodName := ⟨"TextPatterns$Sets", "addNamed", "(II)V"⟩
abbrev wsX1_addNamed : List Cond := .code yX1_addNamed cX1_addNamed 10 none :: WALL
abbrev cX1_readNamed : ByteArray := prog_5_method_4_code
abbrev yX1_readNamed : MethodName := ⟨"TextPatterns$Sets", "readNamed", "(III)I"⟩
abbrev wsX1_readNamed : List Cond := .code yX1_readNamed cX1_readNamed 4 (some .int) :: WALL
abbrev cX1_closingOf : ByteArray := prog_5_method_6_code
abbrev yX1_closingOf : MethodName := ⟨"TextPatterns$Sets", "closingOf", "(LTextPatterns$Row;I)I"⟩
abbrev wsX1_closingOf : List Cond := .code yX1_closingOf cX1_closingOf 4 (some .int) :: WALL
abbrev cX1_readSet : ByteArray := prog_5_method_5_code
abbrev yX1_readSet : MethodName := ⟨"TextPatterns$Sets", "readSet", "(ILTextPatterns$Row;I)I"⟩
abbrev wsX1_readSet : List Cond := .code yX1_readSet cX1_readSet 9 (some .int) :: WALL
abbrev cX1_readSingle : ByteArray := prog_5_method_3_code
abbrev yX1_readSingle : MethodName := ⟨"TextPatterns$Sets", "readSingle", "(ILTextPatterns$Row;I)I"⟩
abbrev wsX1_readSingle : List Cond := .code yX1_readSingle cX1_readSingle 5 (some .int) :: WALL
abbrev cX2_captureCount : ByteArray := prog_2_method_2_code
abbrev yX2_captureCount : MethodName := ⟨"TextPatterns$Items", "captureCount", "()I"⟩
abbrev wsX2_captureCount : List Cond := .code yX2_captureCount cX2_captureCount 1 (some .int) :: WALL
abbrev cX2_kind : ByteArray := prog_2_method_3_code
abbrev yX2_kind : MethodName := ⟨"TextPatterns$Items", "kind", "(I)I"⟩
abbrev wsX2_kind : List Cond := .code yX2_kind cX2_kind 2 (some .int) :: WALL
abbrev cX2_one : ByteArray := prog_2_method_4_code
abbrev yX2_one : MethodName := ⟨"TextPatterns$Items", "one", "(I)I"⟩
abbrev wsX2_one : List Cond := .code yX2_one cX2_one 2 (some .int) :: WALL
abbrev cX2_two : ByteArray := prog_2_method_5_code
abbrev yX2_two : MethodName := ⟨"TextPatterns$Items", "two", "(I)I"⟩
abbrev wsX2_two : List Cond := .code yX2_two cX2_two 2 (some .int) :: WALL
abbrev cX2_latestOpen : ByteArray := prog_2_method_12_code
abbrev yX2_latestOpen : MethodName := ⟨"TextPatterns$Items", "latestOpen", "()I"⟩
abbrev wsX2_latestOpen : List Cond := .code yX2_latestOpen cX2_latestOpen 2 (some .int) :: WALL
abbrev cX2_add : ByteArray := prog_2_method_16_code
abbrev yX2_add : MethodName := ⟨"TextPatterns$Items", "add", "(III)V"⟩
abbrev wsX2_add : List Cond := .code yX2_add cX2_add 4 none :: WALL
abbrev cX2_kindAt : ByteArray := prog_2_method_7_code
abbrev yX2_kindAt : MethodName := ⟨"TextPatterns$Items", "kindAt", "(LTextPatterns$Row;I)I"⟩
abbrev wsX2_kindAt : List Cond := .code yX2_kindAt cX2_kindAt 4 (some .int) :: WALL
abbrev cX2_readOpening : ByteArray := prog_2_method_10_code
abbrev yX2_readOpening : MethodName := ⟨"TextPatterns$Items", "readOpening", "(II)I"⟩
abbrev wsX2_readOpening : List Cond := .code yX2_readOpening cX2_readOpening 3 (some .int) :: WALL
abbrev cX2_readClosing : ByteArray := prog_2_method_11_code
abbrev yX2_readClosing : MethodName := ⟨"TextPatterns$Items", "readClosing", "(I)I"⟩
abbrev wsX2_readClosing : List Cond := .code yX2_readClosing cX2_readClosing 3 (some .int) :: WALL
abbrev cX2_readSame : ByteArray := prog_2_method_13_code
abbrev yX2_readSame : MethodName := ⟨"TextPatterns$Items", "readSame", "(II)I"⟩
abbrev wsX2_readSame : List Cond := .code yX2_readSame cX2_readSame 3 (some .int) :: WALL
abbrev cX2_readPair : ByteArray := prog_2_method_14_code
abbrev yX2_readPair : MethodName := ⟨"TextPatterns$Items", "readPair", "(LTextPatterns$Row;I)I"⟩
abbrev wsX2_readPair : List Cond := .code yX2_readPair cX2_readPair 3 (some .int) :: WALL
abbrev cX2_readBorder : ByteArray := prog_2_method_15_code
abbrev yX2_readBorder : MethodName := ⟨"TextPatterns$Items", "readBorder", "(LTextPatterns$Row;I)I"⟩
abbrev wsX2_readBorder : List Cond := .code yX2_readBorder cX2_readBorder 4 (some .int) :: WALL
abbrev cX2_readRepeated : ByteArray := prog_2_method_8_code
abbrev yX2_readRepeated : MethodName := ⟨"TextPatterns$Items", "readRepeated", "(LTextPatterns$Row;I)I"⟩
abbrev wsX2_readRepeated : List Cond := .code yX2_readRepeated cX2_readRepeated 4 (some .int) :: WALL
abbrev cX2_readSpecial : ByteArray := prog_2_method_9_code
abbrev yX2_readSpecial : MethodName := ⟨"TextPatterns$Items", "readSpecial", "(ILTextPatterns$Row;I)I"⟩
abbrev wsX2_readSpecial : List Cond := .code yX2_readSpecial cX2_readSpecial 4 (some .int) :: WALL
abbrev cX2_read : ByteArray := prog_2_method_6_code
abbrev yX2_read : MethodName := ⟨"TextPatterns$Items", "read", "(LTextPatterns$Row;I)V"⟩
abbrev wsX2_read : List Cond := .code yX2_read cX2_read 6 none :: WALL
theorem w_93 : (.fieldLink "TextPatterns$Row" 21 "TextPatterns$Row" "length" "I" : Cond) ∈ WALL := kw (i := 93) (by decide +kernel) (by decide +kernel)
theorem w_92 : (.fieldLink "TextPatterns$Row" 15 "TextPatterns$Row" "bytes" "[B" : Cond) ∈ WALL := kw (i := 92) (by decide +kernel) (by decide +kernel)
theorem w_112 : (.methodLink "TextPatterns$Sets" 9 ⟨"java/lang/Math", "max", "(II)I"⟩ : Cond) ∈ WALL := kw (i := 112) (by decide +kernel) (by decide +kernel)
theorem w_90 : (.static ⟨"java/lang/Math", "max", "(II)I"⟩ : Cond) ∈ WALL := kw (i := 90) (by decide +kernel) (by decide +kernel)
theorem w_70 : (.initialized "java/lang/Math" : Cond) ∈ WALL := kw (i := 70) (by decide +kernel) (by decide +kernel)
theorem w_91 : (.code Lib.Math.max.name Lib.Math.max.code 2 (some .int) : Cond) ∈ WALL := kw (i := 91) (by decide +kernel) (by decide +kernel)
theorem w_301 : (.methodLink "TextPatterns$Sets" 72 ⟨"java/lang/Math", "min", "(II)I"⟩ : Cond) ∈ WALL := kw (i := 301) (by decide +kernel) (by decide +kernel)
theorem w_302 : (.static ⟨"java/lang/Math", "min", "(II)I"⟩ : Cond) ∈ WALL := kw (i := 302) (by decide +kernel) (by decide +kernel)
theorem w_303 : (.code Lib.Math.min.name Lib.Math.min.code 2 (some .int) : Cond) ∈ WALL := kw (i := 303) (by decide +kernel) (by decide +kernel)
theorem w_304 : (.constantLong "TextPatterns$Sets" 66 (-1) : Cond) ∈ WALL := kw (i := 304) (by decide +kernel) (by decide +kernel)
theorem w_113 : (.fieldLink "TextPatterns$Sets" 15 "TextPatterns$Sets" "words" "[J" : Cond) ∈ WALL := kw (i := 113) (by decide +kernel) (by decide +kernel)
theorem w_298 : (.methodLink "TextPatterns$Sets" 62 ⟨"TextPatterns$Sets", "spanBits", "(III)J"⟩ : Cond) ∈ WALL := kw (i := 298) (by decide +kernel) (by decide +kernel)
theorem w_300 : (.code ⟨"TextPatterns$Sets", "spanBits", "(III)J"⟩ prog_5_method_9_code 5 (some .long) : Cond) ∈ WALL := kw (i := 300) (by decide +kernel) (by decide +kernel)
theorem w_299 : (.static ⟨"TextPatterns$Sets", "spanBits", "(III)J"⟩ : Cond) ∈ WALL := kw (i := 299) (by decide +kernel) (by decide +kernel)
theorem w_72 : (.initialized "TextPatterns$Sets" : Cond) ∈ WALL := kw (i := 72) (by decide +kernel) (by decide +kernel)
theorem w_305 : (.methodLink "TextPatterns$Sets" 68 ⟨"TextPatterns$Sets", "addBits", "(IIJ)V"⟩ : Cond) ∈ WALL := kw (i := 305) (by decide +kernel) (by decide +kernel)
theorem w_308 : (.code ⟨"TextPatterns$Sets", "addBits", "(IIJ)V"⟩ prog_5_method_10_code 6 none : Cond) ∈ WALL := kw (i := 308) (by decide +kernel) (by decide +kernel)
theorem w_307 : (.instanceMethod ⟨"TextPatterns$Sets", "addBits", "(IIJ)V"⟩ : Cond) ∈ WALL := kw (i := 307) (by decide +kernel) (by decide +kernel)
theorem w_6 : (.selects "TextPatterns$Sets" ⟨"TextPatterns$Sets", "addBits", "(IIJ)V"⟩ ⟨"TextPatterns$Sets", "addBits", "(IIJ)V"⟩ : Cond) ∈ WALL := kw (i := 6) (by decide +kernel) (by decide +kernel)
theorem w_292 : (.methodLink "TextPatterns$Sets" 43 ⟨"TextPatterns$Sets", "addNamed", "(II)V"⟩ : Cond) ∈ WALL := kw (i := 292) (by decide +kernel) (by decide +kernel)
theorem w_295 : (.code ⟨"TextPatterns$Sets", "addNamed", "(II)V"⟩ prog_5_method_7_code 10 none : Cond) ∈ WALL := kw (i := 295) (by decide +kernel) (by decide +kernel)
theorem w_294 : (.instanceMethod ⟨"TextPatterns$Sets", "addNamed", "(II)V"⟩ : Cond) ∈ WALL := kw (i := 294) (by decide +kernel) (by decide +kernel)
theorem w_5 : (.selects "TextPatterns$Sets" ⟨"TextPatterns$Sets", "addNamed", "(II)V"⟩ ⟨"TextPatterns$Sets", "addNamed", "(II)V"⟩ : Cond) ∈ WALL := kw (i := 5) (by decide +kernel) (by decide +kernel)
theorem w_291 : (.methodLink "TextPatterns$Sets" 54 ⟨"TextPatterns$Row", "length", "()I"⟩ : Cond) ∈ WALL := kw (i := 291) (by decide +kernel) (by decide +kernel)
theorem w_237 : (.code ⟨"TextPatterns$Row", "length", "()I"⟩ prog_4_method_2_code 1 (some .int) : Cond) ∈ WALL := kw (i := 237) (by decide +kernel) (by decide +kernel)
theorem w_235 : (.instanceMethod ⟨"TextPatterns$Row", "length", "()I"⟩ : Cond) ∈ WALL := kw (i := 235) (by decide +kernel) (by decide +kernel)
theorem w_236 : (.selects "TextPatterns$Row" ⟨"TextPatterns$Row", "length", "()I"⟩ ⟨"TextPatterns$Row", "length", "()I"⟩ : Cond) ∈ WALL := kw (i := 236) (by decide +kernel) (by decide +kernel)
theorem w_69 : (.initialized "TextPatterns$Row" : Cond) ∈ WALL := kw (i := 69) (by decide +kernel) (by decide +kernel)
theorem w_283 : (.methodLink "TextPatterns$Sets" 25 ⟨"TextPatterns$Row", "at", "(I)I"⟩ : Cond) ∈ WALL := kw (i := 283) (by decide +kernel) (by decide +kernel)
theorem w_261 : (.code ⟨"TextPatterns$Row", "at", "(I)I"⟩ prog_4_method_6_code 2 (some .int) : Cond) ∈ WALL := kw (i := 261) (by decide +kernel) (by decide +kernel)
theorem w_259 : (.instanceMethod ⟨"TextPatterns$Row", "at", "(I)I"⟩ : Cond) ∈ WALL := kw (i := 259) (by decide +kernel) (by decide +kernel)
theorem w_260 : (.selects "TextPatterns$Row" ⟨"TextPatterns$Row", "at", "(I)I"⟩ ⟨"TextPatterns$Row", "at", "(I)I"⟩ : Cond) ∈ WALL := kw (i := 260) (by decide +kernel) (by decide +kernel)
theorem w_288 : (.methodLink "TextPatterns$Sets" 47 ⟨"TextPatterns$Sets", "closingOf", "(LTextPatterns$Row;I)I"⟩ : Cond) ∈ WALL := kw (i := 288) (by decide +kernel) (by decide +kernel)
theorem w_290 : (.code ⟨"TextPatterns$Sets", "closingOf", "(LTextPatterns$Row;I)I"⟩ prog_5_method_6_code 4 (some .int) : Cond) ∈ WALL := kw (i := 290) (by decide +kernel) (by decide +kernel)
theorem w_289 : (.static ⟨"TextPatterns$Sets", "closingOf", "(LTextPatterns$Row;I)I"⟩ : Cond) ∈ WALL := kw (i := 289) (by decide +kernel) (by decide +kernel)
theorem w_313 : (.methodLink "TextPatterns$Sets" 51 ⟨"TextPatterns$Sets", "turn", "(I)V"⟩ : Cond) ∈ WALL := kw (i := 313) (by decide +kernel) (by decide +kernel)
theorem w_316 : (.code ⟨"TextPatterns$Sets", "turn", "(I)V"⟩ prog_5_method_12_code 4 none : Cond) ∈ WALL := kw (i := 316) (by decide +kernel) (by decide +kernel)
theorem w_315 : (.instanceMethod ⟨"TextPatterns$Sets", "turn", "(I)V"⟩ : Cond) ∈ WALL := kw (i := 315) (by decide +kernel) (by decide +kernel)
theorem w_8 : (.selects "TextPatterns$Sets" ⟨"TextPatterns$Sets", "turn", "(I)V"⟩ ⟨"TextPatterns$Sets", "turn", "(I)V"⟩ : Cond) ∈ WALL := kw (i := 8) (by decide +kernel) (by decide +kernel)
theorem w_309 : (.methodLink "TextPatterns$Sets" 39 ⟨"TextPatterns$Sets", "addSpan", "(III)V"⟩ : Cond) ∈ WALL := kw (i := 309) (by decide +kernel) (by decide +kernel)
theorem w_312 : (.code ⟨"TextPatterns$Sets", "addSpan", "(III)V"⟩ prog_5_method_8_code 5 none : Cond) ∈ WALL := kw (i := 312) (by decide +kernel) (by decide +kernel)
theorem w_311 : (.instanceMethod ⟨"TextPatterns$Sets", "addSpan", "(III)V"⟩ : Cond) ∈ WALL := kw (i := 311) (by decide +kernel) (by decide +kernel)
theorem w_7 : (.selects "TextPatterns$Sets" ⟨"TextPatterns$Sets", "addSpan", "(III)V"⟩ ⟨"TextPatterns$Sets", "addSpan", "(III)V"⟩ : Cond) ∈ WALL := kw (i := 7) (by decide +kernel) (by decide +kernel)
theorem w_279 : (.methodLink "TextPatterns$Sets" 21 ⟨"TextPatterns$Sets", "empty", "(I)V"⟩ : Cond) ∈ WALL := kw (i := 279) (by decide +kernel) (by decide +kernel)
theorem w_282 : (.code ⟨"TextPatterns$Sets", "empty", "(I)V"⟩ prog_5_method_11_code 4 none : Cond) ∈ WALL := kw (i := 282) (by decide +kernel) (by decide +kernel)
theorem w_281 : (.instanceMethod ⟨"TextPatterns$Sets", "empty", "(I)V"⟩ : Cond) ∈ WALL := kw (i := 281) (by decide +kernel) (by decide +kernel)
theorem w_3 : (.selects "TextPatterns$Sets" ⟨"TextPatterns$Sets", "empty", "(I)V"⟩ ⟨"TextPatterns$Sets", "empty", "(I)V"⟩ : Cond) ∈ WALL := kw (i := 3) (by decide +kernel) (by decide +kernel)
theorem w_317 : (.methodLink "TextPatterns$Sets" 35 ⟨"TextPatterns$Sets", "readNamed", "(III)I"⟩ : Cond) ∈ WALL := kw (i := 317) (by decide +kernel) (by decide +kernel)
theorem w_320 : (.code ⟨"TextPatterns$Sets", "readNamed", "(III)I"⟩ prog_5_method_4_code 4 (some .int) : Cond) ∈ WALL := kw (i := 320) (by decide +kernel) (by decide +kernel)
theorem w_319 : (.instanceMethod ⟨"TextPatterns$Sets", "readNamed", "(III)I"⟩ : Cond) ∈ WALL := kw (i := 319) (by decide +kernel) (by decide +kernel)
theorem w_9 : (.selects "TextPatterns$Sets" ⟨"TextPatterns$Sets", "readNamed", "(III)I"⟩ ⟨"TextPatterns$Sets", "readNamed", "(III)I"⟩ : Cond) ∈ WALL := kw (i := 9) (by decide +kernel) (by decide +kernel)
theorem w_284 : (.methodLink "TextPatterns$Sets" 31 ⟨"TextPatterns$Sets", "readSet", "(ILTextPatterns$Row;I)I"⟩ : Cond) ∈ WALL := kw (i := 284) (by decide +kernel) (by decide +kernel)
theorem w_287 : (.code ⟨"TextPatterns$Sets", "readSet", "(ILTextPatterns$Row;I)I"⟩ prog_5_method_5_code 9 (some .int) : Cond) ∈ WALL := kw (i := 287) (by decide +kernel) (by decide +kernel)
theorem w_286 : (.instanceMethod ⟨"TextPatterns$Sets", "readSet", "(ILTextPatterns$Row;I)I"⟩ : Cond) ∈ WALL := kw (i := 286) (by decide +kernel) (by decide +kernel)
theorem w_4 : (.selects "TextPatterns$Sets" ⟨"TextPatterns$Sets", "readSet", "(ILTextPatterns$Row;I)I"⟩ ⟨"TextPatterns$Sets", "readSet", "(ILTextPatterns$Row;I)I"⟩ : Cond) ∈ WALL := kw (i := 4) (by decide +kernel) (by decide +kernel)
theorem w_126 : (.fieldLink "TextPatterns$Items" 33 "TextPatterns$Items" "captureCount" "I" : Cond) ∈ WALL := kw (i := 126) (by decide +kernel) (by decide +kernel)
theorem w_125 : (.fieldLink "TextPatterns$Items" 37 "TextPatterns$Items" "count" "I" : Cond) ∈ WALL := kw (i := 125) (by decide +kernel) (by decide +kernel)
theorem w_119 : (.fieldLink "TextPatterns$Items" 9 "TextPatterns$Items" "kinds" "[I" : Cond) ∈ WALL := kw (i := 119) (by decide +kernel) (by decide +kernel)
theorem w_120 : (.fieldLink "TextPatterns$Items" 15 "TextPatterns$Items" "ones" "[I" : Cond) ∈ WALL := kw (i := 120) (by decide +kernel) (by decide +kernel)
theorem w_121 : (.fieldLink "TextPatterns$Items" 18 "TextPatterns$Items" "twos" "[I" : Cond) ∈ WALL := kw (i := 121) (by decide +kernel) (by decide +kernel)
theorem w_124 : (.fieldLink "TextPatterns$Items" 30 "TextPatterns$Items" "states" "[I" : Cond) ∈ WALL := kw (i := 124) (by decide +kernel) (by decide +kernel)
theorem w_341 : (.methodLink "TextPatterns$Items" 87 ⟨"java/lang/Math", "min", "(II)I"⟩ : Cond) ∈ WALL := kw (i := 341) (by decide +kernel) (by decide +kernel)
theorem w_270 : (.methodLink "TextPatterns$Items" 64 ⟨"TextPatterns$Row", "at", "(I)I"⟩ : Cond) ∈ WALL := kw (i := 270) (by decide +kernel) (by decide +kernel)
theorem w_321 : (.methodLink "TextPatterns$Items" 60 ⟨"TextPatterns$Items", "add", "(III)V"⟩ : Cond) ∈ WALL := kw (i := 321) (by decide +kernel) (by decide +kernel)
theorem w_324 : (.code ⟨"TextPatterns$Items", "add", "(III)V"⟩ prog_2_method_16_code 4 none : Cond) ∈ WALL := kw (i := 324) (by decide +kernel) (by decide +kernel)
theorem w_323 : (.instanceMethod ⟨"TextPatterns$Items", "add", "(III)V"⟩ : Cond) ∈ WALL := kw (i := 323) (by decide +kernel) (by decide +kernel)
theorem w_10 : (.selects "TextPatterns$Items" ⟨"TextPatterns$Items", "add", "(III)V"⟩ ⟨"TextPatterns$Items", "add", "(III)V"⟩ : Cond) ∈ WALL := kw (i := 10) (by decide +kernel) (by decide +kernel)
theorem w_71 : (.initialized "TextPatterns$Items" : Cond) ∈ WALL := kw (i := 71) (by decide +kernel) (by decide +kernel)
theorem w_337 : (.methodLink "TextPatterns$Items" 57 ⟨"TextPatterns$Items", "latestOpen", "()I"⟩ : Cond) ∈ WALL := kw (i := 337) (by decide +kernel) (by decide +kernel)
theorem w_340 : (.code ⟨"TextPatterns$Items", "latestOpen", "()I"⟩ prog_2_method_12_code 2 (some .int) : Cond) ∈ WALL := kw (i := 340) (by decide +kernel) (by decide +kernel)
theorem w_339 : (.instanceMethod ⟨"TextPatterns$Items", "latestOpen", "()I"⟩ : Cond) ∈ WALL := kw (i := 339) (by decide +kernel) (by decide +kernel)
theorem w_14 : (.selects "TextPatterns$Items" ⟨"TextPatterns$Items", "latestOpen", "()I"⟩ ⟨"TextPatterns$Items", "latestOpen", "()I"⟩ : Cond) ∈ WALL := kw (i := 14) (by decide +kernel) (by decide +kernel)
theorem w_122 : (.fieldLink "TextPatterns$Items" 26 "TextPatterns$Items" "sets" "LTextPatterns$Sets;" : Cond) ∈ WALL := kw (i := 122) (by decide +kernel) (by decide +kernel)
theorem w_275 : (.methodLink "TextPatterns$Items" 68 ⟨"TextPatterns$Sets", "readSingle", "(ILTextPatterns$Row;I)I"⟩ : Cond) ∈ WALL := kw (i := 275) (by decide +kernel) (by decide +kernel)
theorem w_278 : (.code ⟨"TextPatterns$Sets", "readSingle", "(ILTextPatterns$Row;I)I"⟩ prog_5_method_3_code 5 (some .int) : Cond) ∈ WALL := kw (i := 278) (by decide +kernel) (by decide +kernel)
theorem w_276 : (.instanceMethod ⟨"TextPatterns$Sets", "readSingle", "(ILTextPatterns$Row;I)I"⟩ : Cond) ∈ WALL := kw (i := 276) (by decide +kernel) (by decide +kernel)
theorem w_277 : (.selects "TextPatterns$Sets" ⟨"TextPatterns$Sets", "readSingle", "(ILTextPatterns$Row;I)I"⟩ ⟨"TextPatterns$Sets", "readSingle", "(ILTextPatterns$Row;I)I"⟩ : Cond) ∈ WALL := kw (i := 277) (by decide +kernel) (by decide +kernel)
theorem w_329 : (.methodLink "TextPatterns$Items" 71 ⟨"TextPatterns$Items", "readOpening", "(II)I"⟩ : Cond) ∈ WALL := kw (i := 329) (by decide +kernel) (by decide +kernel)
theorem w_332 : (.code ⟨"TextPatterns$Items", "readOpening", "(II)I"⟩ prog_2_method_10_code 3 (some .int) : Cond) ∈ WALL := kw (i := 332) (by decide +kernel) (by decide +kernel)
theorem w_331 : (.instanceMethod ⟨"TextPatterns$Items", "readOpening", "(II)I"⟩ : Cond) ∈ WALL := kw (i := 331) (by decide +kernel) (by decide +kernel)
theorem w_12 : (.selects "TextPatterns$Items" ⟨"TextPatterns$Items", "readOpening", "(II)I"⟩ ⟨"TextPatterns$Items", "readOpening", "(II)I"⟩ : Cond) ∈ WALL := kw (i := 12) (by decide +kernel) (by decide +kernel)
theorem w_333 : (.methodLink "TextPatterns$Items" 75 ⟨"TextPatterns$Items", "readClosing", "(I)I"⟩ : Cond) ∈ WALL := kw (i := 333) (by decide +kernel) (by decide +kernel)
theorem w_336 : (.code ⟨"TextPatterns$Items", "readClosing", "(I)I"⟩ prog_2_method_11_code 3 (some .int) : Cond) ∈ WALL := kw (i := 336) (by decide +kernel) (by decide +kernel)
theorem w_335 : (.instanceMethod ⟨"TextPatterns$Items", "readClosing", "(I)I"⟩ : Cond) ∈ WALL := kw (i := 335) (by decide +kernel) (by decide +kernel)
theorem w_13 : (.selects "TextPatterns$Items" ⟨"TextPatterns$Items", "readClosing", "(I)I"⟩ ⟨"TextPatterns$Items", "readClosing", "(I)I"⟩ : Cond) ∈ WALL := kw (i := 13) (by decide +kernel) (by decide +kernel)
theorem w_342 : (.methodLink "TextPatterns$Items" 78 ⟨"TextPatterns$Items", "readSame", "(II)I"⟩ : Cond) ∈ WALL := kw (i := 342) (by decide +kernel) (by decide +kernel)
theorem w_345 : (.code ⟨"TextPatterns$Items", "readSame", "(II)I"⟩ prog_2_method_13_code 3 (some .int) : Cond) ∈ WALL := kw (i := 345) (by decide +kernel) (by decide +kernel)
theorem w_344 : (.instanceMethod ⟨"TextPatterns$Items", "readSame", "(II)I"⟩ : Cond) ∈ WALL := kw (i := 344) (by decide +kernel) (by decide +kernel)
theorem w_15 : (.selects "TextPatterns$Items" ⟨"TextPatterns$Items", "readSame", "(II)I"⟩ ⟨"TextPatterns$Items", "readSame", "(II)I"⟩ : Cond) ∈ WALL := kw (i := 15) (by decide +kernel) (by decide +kernel)
theorem w_346 : (.methodLink "TextPatterns$Items" 81 ⟨"TextPatterns$Items", "readPair", "(LTextPatterns$Row;I)I"⟩ : Cond) ∈ WALL := kw (i := 346) (by decide +kernel) (by decide +kernel)
theorem w_349 : (.code ⟨"TextPatterns$Items", "readPair", "(LTextPatterns$Row;I)I"⟩ prog_2_method_14_code 3 (some .int) : Cond) ∈ WALL := kw (i := 349) (by decide +kernel) (by decide +kernel)
theorem w_348 : (.instanceMethod ⟨"TextPatterns$Items", "readPair", "(LTextPatterns$Row;I)I"⟩ : Cond) ∈ WALL := kw (i := 348) (by decide +kernel) (by decide +kernel)
theorem w_16 : (.selects "TextPatterns$Items" ⟨"TextPatterns$Items", "readPair", "(LTextPatterns$Row;I)I"⟩ ⟨"TextPatterns$Items", "readPair", "(LTextPatterns$Row;I)I"⟩ : Cond) ∈ WALL := kw (i := 16) (by decide +kernel) (by decide +kernel)
theorem w_350 : (.methodLink "TextPatterns$Items" 84 ⟨"TextPatterns$Items", "readBorder", "(LTextPatterns$Row;I)I"⟩ : Cond) ∈ WALL := kw (i := 350) (by decide +kernel) (by decide +kernel)
theorem w_353 : (.code ⟨"TextPatterns$Items", "readBorder", "(LTextPatterns$Row;I)I"⟩ prog_2_method_15_code 4 (some .int) : Cond) ∈ WALL := kw (i := 353) (by decide +kernel) (by decide +kernel)
theorem w_352 : (.instanceMethod ⟨"TextPatterns$Items", "readBorder", "(LTextPatterns$Row;I)I"⟩ : Cond) ∈ WALL := kw (i := 352) (by decide +kernel) (by decide +kernel)
theorem w_17 : (.selects "TextPatterns$Items" ⟨"TextPatterns$Items", "readBorder", "(LTextPatterns$Row;I)I"⟩ ⟨"TextPatterns$Items", "readBorder", "(LTextPatterns$Row;I)I"⟩ : Cond) ∈ WALL := kw (i := 17) (by decide +kernel) (by decide +kernel)
theorem w_266 : (.methodLink "TextPatterns$Items" 40 ⟨"TextPatterns$Row", "length", "()I"⟩ : Cond) ∈ WALL := kw (i := 266) (by decide +kernel) (by decide +kernel)
theorem w_267 : (.methodLink "TextPatterns$Items" 46 ⟨"TextPatterns$Items", "kindAt", "(LTextPatterns$Row;I)I"⟩ : Cond) ∈ WALL := kw (i := 267) (by decide +kernel) (by decide +kernel)
theorem w_269 : (.code ⟨"TextPatterns$Items", "kindAt", "(LTextPatterns$Row;I)I"⟩ prog_2_method_7_code 4 (some .int) : Cond) ∈ WALL := kw (i := 269) (by decide +kernel) (by decide +kernel)
theorem w_268 : (.static ⟨"TextPatterns$Items", "kindAt", "(LTextPatterns$Row;I)I"⟩ : Cond) ∈ WALL := kw (i := 268) (by decide +kernel) (by decide +kernel)
theorem w_325 : (.methodLink "TextPatterns$Items" 53 ⟨"TextPatterns$Items", "readSpecial", "(ILTextPatterns$Row;I)I"⟩ : Cond) ∈ WALL := kw (i := 325) (by decide +kernel) (by decide +kernel)
theorem w_328 : (.code ⟨"TextPatterns$Items", "readSpecial", "(ILTextPatterns$Row;I)I"⟩ prog_2_method_9_code 4 (some .int) : Cond) ∈ WALL := kw (i := 328) (by decide +kernel) (by decide +kernel)
theorem w_327 : (.instanceMethod ⟨"TextPatterns$Items", "readSpecial", "(ILTextPatterns$Row;I)I"⟩ : Cond) ∈ WALL := kw (i := 327) (by decide +kernel) (by decide +kernel)
theorem w_11 : (.selects "TextPatterns$Items" ⟨"TextPatterns$Items", "readSpecial", "(ILTextPatterns$Row;I)I"⟩ ⟨"TextPatterns$Items", "readSpecial", "(ILTextPatterns$Row;I)I"⟩ : Cond) ∈ WALL := kw (i := 11) (by decide +kernel) (by decide +kernel)
theorem w_271 : (.methodLink "TextPatterns$Items" 50 ⟨"TextPatterns$Items", "readRepeated", "(LTextPatterns$Row;I)I"⟩ : Cond) ∈ WALL := kw (i := 271) (by decide +kernel) (by decide +kernel)
theorem w_274 : (.code ⟨"TextPatterns$Items", "readRepeated", "(LTextPatterns$Row;I)I"⟩ prog_2_method_8_code 4 (some .int) : Cond) ∈ WALL := kw (i := 274) (by decide +kernel) (by decide +kernel)
theorem w_273 : (.instanceMethod ⟨"TextPatterns$Items", "readRepeated", "(LTextPatterns$Row;I)I"⟩ : Cond) ∈ WALL := kw (i := 273) (by decide +kernel) (by decide +kernel)
theorem w_2 : (.selects "TextPatterns$Items" ⟨"TextPatterns$Items", "readRepeated", "(LTextPatterns$Row;I)I"⟩ ⟨"TextPatterns$Items", "readRepeated", "(LTextPatterns$Row;I)I"⟩ : Cond) ∈ WALL := kw (i := 2) (by decide +kernel) (by decide +kernel)
theorem w_229 : (.code ⟨"TextPatterns$Row", "room", "()I"⟩ prog_4_method_3_code 1 (some .int) : Cond) ∈ WALL := kw (i := 229) (by decide +kernel) (by decide +kernel)
theorem w_245 : (.code ⟨"TextPatterns$Row", "empty", "()V"⟩ prog_4_method_4_code 1 none : Cond) ∈ WALL := kw (i := 245) (by decide +kernel) (by decide +kernel)
theorem w_233 : (.code ⟨"TextPatterns$Row", "add", "(I)V"⟩ prog_4_method_5_code 2 none : Cond) ∈ WALL := kw (i := 233) (by decide +kernel) (by decide +kernel)
theorem w_395 : (.code ⟨"TextPatterns$Sets", "holds", "(II)Z"⟩ prog_5_method_2_code 4 (some .boolean) : Cond) ∈ WALL := kw (i := 395) (by decide +kernel) (by decide +kernel)
theorem w_477 : (.code ⟨"TextPatterns$Items", "captureCount", "()I"⟩ prog_2_method_2_code 1 (some .int) : Cond) ∈ WALL := kw (i := 477) (by decide +kernel) (by decide +kernel)
theorem w_370 : (.code ⟨"TextPatterns$Items", "kind", "(I)I"⟩ prog_2_method_3_code 2 (some .int) : Cond) ∈ WALL := kw (i := 370) (by decide +kernel) (by decide +kernel)
theorem w_399 : (.code ⟨"TextPatterns$Items", "one", "(I)I"⟩ prog_2_method_4_code 2 (some .int) : Cond) ∈ WALL := kw (i := 399) (by decide +kernel) (by decide +kernel)
theorem w_382 : (.code ⟨"TextPatterns$Items", "two", "(I)I"⟩ prog_2_method_5_code 2 (some .int) : Cond) ∈ WALL := kw (i := 382) (by decide +kernel) (by decide +kernel)
theorem w_265 : (.code ⟨"TextPatterns$Items", "read", "(LTextPatterns$Row;I)V"⟩ prog_2_method_6_code 6 none : Cond) ∈ WALL := kw (i := 265) (by decide +kernel) (by decide +kernel)
