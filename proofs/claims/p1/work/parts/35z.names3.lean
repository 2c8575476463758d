abbrev cX5_tell : ByteArray := prog_7_method_18_code
abbrev yX5_tell : MethodName := ⟨"TextPatternsModel", "tell", "(I)V"⟩
abbrev wsX5_tell : List Cond := .code yX5_tell cX5_tell 4 none :: WALL
abbrev cX5_matches : ByteArray := prog_7_method_30_code
abbrev yX5_matches : MethodName := ⟨"TextPatternsModel", "matches", "(II)Z"⟩
abbrev wsX5_matches : List Cond := .code yX5_matches cX5_matches 5 (some .boolean) :: WALL
abbrev cX5_search : ByteArray := prog_7_method_33_code
abbrev yX5_search : MethodName := ⟨"TextPatternsModel", "search", "(IZI)I"⟩
abbrev wsX5_search : List Cond := .code yX5_search cX5_search 5 (some .int) :: WALL
abbrev cX5_find : ByteArray := prog_7_method_34_code
abbrev yX5_find : MethodName := ⟨"TextPatternsModel", "find", "(I)I"⟩
abbrev wsX5_find : List Cond := .code yX5_find cX5_find 2 (some .int) :: WALL
abbrev cX5_next : ByteArray := prog_7_method_36_code
abbrev yX5_next : MethodName := ⟨"TextPatternsModel", "next", "()I"⟩
abbrev wsX5_next : List Cond := .code yX5_next cX5_next 2 (some .int) :: WALL
abbrev cX5_makeReplacement : ByteArray := prog_7_method_41_code
abbrev yX5_makeReplacement : MethodName := ⟨"TextPatternsModel", "makeReplacement", "(I)V"⟩
abbrev wsX5_makeReplacement : List Cond := .code yX5_makeReplacement cX5_makeReplacement 5 none :: WALL
abbrev cX5_replace : ByteArray := prog_7_method_42_code
abbrev yX5_replace : MethodName := ⟨"TextPatternsModel", "replace", "(I)I"⟩
abbrev wsX5_replace : List Cond := .code yX5_replace cX5_replace 8 (some .int) :: WALL
theorem w_38 : (.selects "TextPatternsModel" ⟨"TextPatternsModel", "isAnchored", "()Z"⟩ ⟨"TextPatternsModel", "isAnchored", "()Z"⟩ : Cond) ∈ WALL := kw (i := 38) (by decide +kernel) (by decide +kernel)
theorem w_41 : (.selects "TextPatternsModel" ⟨"TextPatternsModel", "search", "(IZI)I"⟩ ⟨"TextPatternsModel", "search", "(IZI)I"⟩ : Cond) ∈ WALL := kw (i := 41) (by decide +kernel) (by decide +kernel)
theorem w_42 : (.selects "TextPatternsModel" ⟨"TextPatternsModel", "matches", "(II)Z"⟩ ⟨"TextPatternsModel", "matches", "(II)Z"⟩ : Cond) ∈ WALL := kw (i := 42) (by decide +kernel) (by decide +kernel)
theorem w_43 : (.selects "TextPatternsModel" ⟨"TextPatternsModel", "tell", "(I)V"⟩ ⟨"TextPatternsModel", "tell", "(I)V"⟩ : Cond) ∈ WALL := kw (i := 43) (by decide +kernel) (by decide +kernel)
theorem w_44 : (.selects "TextPatternsModel" ⟨"TextPatternsModel", "lastOpen", "()I"⟩ ⟨"TextPatternsModel", "lastOpen", "()I"⟩ : Cond) ∈ WALL := kw (i := 44) (by decide +kernel) (by decide +kernel)
theorem w_62 : (.selects "TextPatternsModel" ⟨"TextPatternsModel", "makeReplacement", "(I)V"⟩ ⟨"TextPatternsModel", "makeReplacement", "(I)V"⟩ : Cond) ∈ WALL := kw (i := 62) (by decide +kernel) (by decide +kernel)
theorem w_65 : (.selects "TextPatternsModel" ⟨"TextPatternsModel", "makeAll", "(II)V"⟩ ⟨"TextPatternsModel", "makeAll", "(II)V"⟩ : Cond) ∈ WALL := kw (i := 65) (by decide +kernel) (by decide +kernel)
theorem w_75 : (.classLink "TextPatternsLaw" 7 "TextPatterns" : Cond) ∈ WALL := kw (i := 75) (by decide +kernel) (by decide +kernel)
theorem w_76 : (.instantiable "TextPatterns" 13 : Cond) ∈ WALL := kw (i := 76) (by decide +kernel) (by decide +kernel)
theorem w_77 : (.methodLink "TextPatternsLaw" 9 ⟨"TextPatterns", "<init>", "()V"⟩ : Cond) ∈ WALL := kw (i := 77) (by decide +kernel) (by decide +kernel)
theorem w_78 : (.instanceMethod ⟨"TextPatterns", "<init>", "()V"⟩ : Cond) ∈ WALL := kw (i := 78) (by decide +kernel) (by decide +kernel)
theorem w_218 : (.methodLink "TextPatternsLaw" 15 ⟨"TextPatterns", "type", "(IJI)I"⟩ : Cond) ∈ WALL := kw (i := 218) (by decide +kernel) (by decide +kernel)
theorem w_219 : (.instanceMethod ⟨"TextPatterns", "type", "(IJI)I"⟩ : Cond) ∈ WALL := kw (i := 219) (by decide +kernel) (by decide +kernel)
theorem w_220 : (.selects "TextPatterns" ⟨"TextPatterns", "type", "(IJI)I"⟩ ⟨"TextPatterns", "type", "(IJI)I"⟩ : Cond) ∈ WALL := kw (i := 220) (by decide +kernel) (by decide +kernel)
theorem w_238 : (.methodLink "TextPatternsLaw" 20 ⟨"TextPatterns", "clear", "(I)I"⟩ : Cond) ∈ WALL := kw (i := 238) (by decide +kernel) (by decide +kernel)
theorem w_239 : (.instanceMethod ⟨"TextPatterns", "clear", "(I)I"⟩ : Cond) ∈ WALL := kw (i := 239) (by decide +kernel) (by decide +kernel)
theorem w_240 : (.selects "TextPatterns" ⟨"TextPatterns", "clear", "(I)I"⟩ ⟨"TextPatterns", "clear", "(I)I"⟩ : Cond) ∈ WALL := kw (i := 240) (by decide +kernel) (by decide +kernel)
theorem w_246 : (.methodLink "TextPatternsLaw" 25 ⟨"TextPatterns", "find", "(I)I"⟩ : Cond) ∈ WALL := kw (i := 246) (by decide +kernel) (by decide +kernel)
theorem w_247 : (.instanceMethod ⟨"TextPatterns", "find", "(I)I"⟩ : Cond) ∈ WALL := kw (i := 247) (by decide +kernel) (by decide +kernel)
theorem w_248 : (.selects "TextPatterns" ⟨"TextPatterns", "find", "(I)I"⟩ ⟨"TextPatterns", "find", "(I)I"⟩ : Cond) ∈ WALL := kw (i := 248) (by decide +kernel) (by decide +kernel)
theorem w_445 : (.methodLink "TextPatternsLaw" 29 ⟨"TextPatterns", "begin", "()V"⟩ : Cond) ∈ WALL := kw (i := 445) (by decide +kernel) (by decide +kernel)
theorem w_446 : (.instanceMethod ⟨"TextPatterns", "begin", "()V"⟩ : Cond) ∈ WALL := kw (i := 446) (by decide +kernel) (by decide +kernel)
theorem w_447 : (.selects "TextPatterns" ⟨"TextPatterns", "begin", "()V"⟩ ⟨"TextPatterns", "begin", "()V"⟩ : Cond) ∈ WALL := kw (i := 447) (by decide +kernel) (by decide +kernel)
theorem w_449 : (.methodLink "TextPatternsLaw" 33 ⟨"TextPatterns", "next", "()I"⟩ : Cond) ∈ WALL := kw (i := 449) (by decide +kernel) (by decide +kernel)
theorem w_450 : (.instanceMethod ⟨"TextPatterns", "next", "()I"⟩ : Cond) ∈ WALL := kw (i := 450) (by decide +kernel) (by decide +kernel)
theorem w_451 : (.selects "TextPatterns" ⟨"TextPatterns", "next", "()I"⟩ ⟨"TextPatterns", "next", "()I"⟩ : Cond) ∈ WALL := kw (i := 451) (by decide +kernel) (by decide +kernel)
theorem w_453 : (.methodLink "TextPatternsLaw" 38 ⟨"TextPatterns", "replace", "(I)I"⟩ : Cond) ∈ WALL := kw (i := 453) (by decide +kernel) (by decide +kernel)
theorem w_454 : (.instanceMethod ⟨"TextPatterns", "replace", "(I)I"⟩ : Cond) ∈ WALL := kw (i := 454) (by decide +kernel) (by decide +kernel)
theorem w_455 : (.selects "TextPatterns" ⟨"TextPatterns", "replace", "(I)I"⟩ ⟨"TextPatterns", "replace", "(I)I"⟩ : Cond) ∈ WALL := kw (i := 455) (by decide +kernel) (by decide +kernel)
theorem w_487 : (.methodLink "TextPatternsLaw" 42 ⟨"TextPatterns", "looks", "()I"⟩ : Cond) ∈ WALL := kw (i := 487) (by decide +kernel) (by decide +kernel)
theorem w_488 : (.instanceMethod ⟨"TextPatterns", "looks", "()I"⟩ : Cond) ∈ WALL := kw (i := 488) (by decide +kernel) (by decide +kernel)
theorem w_489 : (.selects "TextPatterns" ⟨"TextPatterns", "looks", "()I"⟩ ⟨"TextPatterns", "looks", "()I"⟩ : Cond) ∈ WALL := kw (i := 489) (by decide +kernel) (by decide +kernel)
theorem w_495 : (.methodLink "TextPatternsLaw" 46 ⟨"TextPatterns", "first", "()I"⟩ : Cond) ∈ WALL := kw (i := 495) (by decide +kernel) (by decide +kernel)
theorem w_496 : (.instanceMethod ⟨"TextPatterns", "first", "()I"⟩ : Cond) ∈ WALL := kw (i := 496) (by decide +kernel) (by decide +kernel)
theorem w_497 : (.selects "TextPatterns" ⟨"TextPatterns", "first", "()I"⟩ ⟨"TextPatterns", "first", "()I"⟩ : Cond) ∈ WALL := kw (i := 497) (by decide +kernel) (by decide +kernel)
theorem w_499 : (.methodLink "TextPatternsLaw" 50 ⟨"TextPatterns", "last", "()I"⟩ : Cond) ∈ WALL := kw (i := 499) (by decide +kernel) (by decide +kernel)
theorem w_500 : (.instanceMethod ⟨"TextPatterns", "last", "()I"⟩ : Cond) ∈ WALL := kw (i := 500) (by decide +kernel) (by decide +kernel)
theorem w_501 : (.selects "TextPatterns" ⟨"TextPatterns", "last", "()I"⟩ ⟨"TextPatterns", "last", "()I"⟩ : Cond) ∈ WALL := kw (i := 501) (by decide +kernel) (by decide +kernel)
theorem w_503 : (.methodLink "TextPatternsLaw" 54 ⟨"TextPatterns", "captures", "()I"⟩ : Cond) ∈ WALL := kw (i := 503) (by decide +kernel) (by decide +kernel)
theorem w_504 : (.instanceMethod ⟨"TextPatterns", "captures", "()I"⟩ : Cond) ∈ WALL := kw (i := 504) (by decide +kernel) (by decide +kernel)
theorem w_505 : (.selects "TextPatterns" ⟨"TextPatterns", "captures", "()I"⟩ ⟨"TextPatterns", "captures", "()I"⟩ : Cond) ∈ WALL := kw (i := 505) (by decide +kernel) (by decide +kernel)
theorem w_507 : (.methodLink "TextPatternsLaw" 58 ⟨"TextPatterns", "capture", "(II)I"⟩ : Cond) ∈ WALL := kw (i := 507) (by decide +kernel) (by decide +kernel)
theorem w_508 : (.instanceMethod ⟨"TextPatterns", "capture", "(II)I"⟩ : Cond) ∈ WALL := kw (i := 508) (by decide +kernel) (by decide +kernel)
theorem w_509 : (.selects "TextPatterns" ⟨"TextPatterns", "capture", "(II)I"⟩ ⟨"TextPatterns", "capture", "(II)I"⟩ : Cond) ∈ WALL := kw (i := 509) (by decide +kernel) (by decide +kernel)
theorem w_511 : (.methodLink "TextPatternsLaw" 63 ⟨"TextPatterns", "size", "()I"⟩ : Cond) ∈ WALL := kw (i := 511) (by decide +kernel) (by decide +kernel)
theorem w_512 : (.instanceMethod ⟨"TextPatterns", "size", "()I"⟩ : Cond) ∈ WALL := kw (i := 512) (by decide +kernel) (by decide +kernel)
theorem w_513 : (.selects "TextPatterns" ⟨"TextPatterns", "size", "()I"⟩ ⟨"TextPatterns", "size", "()I"⟩ : Cond) ∈ WALL := kw (i := 513) (by decide +kernel) (by decide +kernel)
theorem w_515 : (.methodLink "TextPatternsLaw" 67 ⟨"TextPatterns", "result", "(I)I"⟩ : Cond) ∈ WALL := kw (i := 515) (by decide +kernel) (by decide +kernel)
theorem w_516 : (.instanceMethod ⟨"TextPatterns", "result", "(I)I"⟩ : Cond) ∈ WALL := kw (i := 516) (by decide +kernel) (by decide +kernel)
theorem w_517 : (.selects "TextPatterns" ⟨"TextPatterns", "result", "(I)I"⟩ ⟨"TextPatterns", "result", "(I)I"⟩ : Cond) ∈ WALL := kw (i := 517) (by decide +kernel) (by decide +kernel)
theorem w_519 : (.methodLink "TextPatternsLaw" 71 ⟨"TextPatterns", "single", "(I)I"⟩ : Cond) ∈ WALL := kw (i := 519) (by decide +kernel) (by decide +kernel)
theorem w_520 : (.instanceMethod ⟨"TextPatterns", "single", "(I)I"⟩ : Cond) ∈ WALL := kw (i := 520) (by decide +kernel) (by decide +kernel)
theorem w_521 : (.selects "TextPatterns" ⟨"TextPatterns", "single", "(I)I"⟩ ⟨"TextPatterns", "single", "(I)I"⟩ : Cond) ∈ WALL := kw (i := 521) (by decide +kernel) (by decide +kernel)
theorem w_525 : (.classLink "TextPatternsLaw" 10 "TextPatternsModel" : Cond) ∈ WALL := kw (i := 525) (by decide +kernel) (by decide +kernel)
theorem w_526 : (.instantiable "TextPatternsModel" 21 : Cond) ∈ WALL := kw (i := 526) (by decide +kernel) (by decide +kernel)
theorem w_527 : (.methodLink "TextPatternsLaw" 12 ⟨"TextPatternsModel", "<init>", "()V"⟩ : Cond) ∈ WALL := kw (i := 527) (by decide +kernel) (by decide +kernel)
theorem w_528 : (.instanceMethod ⟨"TextPatternsModel", "<init>", "()V"⟩ : Cond) ∈ WALL := kw (i := 528) (by decide +kernel) (by decide +kernel)
theorem w_595 : (.methodLink "TextPatternsLaw" 19 ⟨"TextPatternsModel", "type", "(IJI)I"⟩ : Cond) ∈ WALL := kw (i := 595) (by decide +kernel) (by decide +kernel)
theorem w_596 : (.instanceMethod ⟨"TextPatternsModel", "type", "(IJI)I"⟩ : Cond) ∈ WALL := kw (i := 596) (by decide +kernel) (by decide +kernel)
theorem w_597 : (.selects "TextPatternsModel" ⟨"TextPatternsModel", "type", "(IJI)I"⟩ ⟨"TextPatternsModel", "type", "(IJI)I"⟩ : Cond) ∈ WALL := kw (i := 597) (by decide +kernel) (by decide +kernel)
theorem w_605 : (.methodLink "TextPatternsLaw" 24 ⟨"TextPatternsModel", "clear", "(I)I"⟩ : Cond) ∈ WALL := kw (i := 605) (by decide +kernel) (by decide +kernel)
theorem w_606 : (.instanceMethod ⟨"TextPatternsModel", "clear", "(I)I"⟩ : Cond) ∈ WALL := kw (i := 606) (by decide +kernel) (by decide +kernel)
theorem w_607 : (.selects "TextPatternsModel" ⟨"TextPatternsModel", "clear", "(I)I"⟩ ⟨"TextPatternsModel", "clear", "(I)I"⟩ : Cond) ∈ WALL := kw (i := 607) (by decide +kernel) (by decide +kernel)
theorem w_609 : (.methodLink "TextPatternsLaw" 28 ⟨"TextPatternsModel", "find", "(I)I"⟩ : Cond) ∈ WALL := kw (i := 609) (by decide +kernel) (by decide +kernel)
theorem w_610 : (.instanceMethod ⟨"TextPatternsModel", "find", "(I)I"⟩ : Cond) ∈ WALL := kw (i := 610) (by decide +kernel) (by decide +kernel)
theorem w_611 : (.selects "TextPatternsModel" ⟨"TextPatternsModel", "find", "(I)I"⟩ ⟨"TextPatternsModel", "find", "(I)I"⟩ : Cond) ∈ WALL := kw (i := 611) (by decide +kernel) (by decide +kernel)
theorem w_612 : (.code ⟨"TextPatternsModel", "find", "(I)I"⟩ prog_7_method_34_code 2 (some .int) : Cond) ∈ WALL := kw (i := 612) (by decide +kernel) (by decide +kernel)
theorem w_613 : (.methodLink "TextPatternsModel" 164 ⟨"TextPatternsModel", "isAnchored", "()Z"⟩ : Cond) ∈ WALL := kw (i := 613) (by decide +kernel) (by decide +kernel)
theorem w_615 : (.instanceMethod ⟨"TextPatternsModel", "isAnchored", "()Z"⟩ : Cond) ∈ WALL := kw (i := 615) (by decide +kernel) (by decide +kernel)
theorem w_625 : (.methodLink "TextPatternsModel" 167 ⟨"TextPatternsModel", "search", "(IZI)I"⟩ : Cond) ∈ WALL := kw (i := 625) (by decide +kernel) (by decide +kernel)
theorem w_627 : (.instanceMethod ⟨"TextPatternsModel", "search", "(IZI)I"⟩ : Cond) ∈ WALL := kw (i := 627) (by decide +kernel) (by decide +kernel)
theorem w_628 : (.code ⟨"TextPatternsModel", "search", "(IZI)I"⟩ prog_7_method_33_code 5 (some .int) : Cond) ∈ WALL := kw (i := 628) (by decide +kernel) (by decide +kernel)
theorem w_629 : (.methodLink "TextPatternsModel" 161 ⟨"TextPatternsModel", "matches", "(II)Z"⟩ : Cond) ∈ WALL := kw (i := 629) (by decide +kernel) (by decide +kernel)
theorem w_631 : (.instanceMethod ⟨"TextPatternsModel", "matches", "(II)Z"⟩ : Cond) ∈ WALL := kw (i := 631) (by decide +kernel) (by decide +kernel)
theorem w_632 : (.code ⟨"TextPatternsModel", "matches", "(II)Z"⟩ prog_7_method_30_code 5 (some .boolean) : Cond) ∈ WALL := kw (i := 632) (by decide +kernel) (by decide +kernel)
theorem w_633 : (.methodLink "TextPatternsModel" 111 ⟨"TextPatternsModel", "tell", "(I)V"⟩ : Cond) ∈ WALL := kw (i := 633) (by decide +kernel) (by decide +kernel)
theorem w_635 : (.instanceMethod ⟨"TextPatternsModel", "tell", "(I)V"⟩ : Cond) ∈ WALL := kw (i := 635) (by decide +kernel) (by decide +kernel)
theorem w_636 : (.code ⟨"TextPatternsModel", "tell", "(I)V"⟩ prog_7_method_18_code 4 none : Cond) ∈ WALL := kw (i := 636) (by decide +kernel) (by decide +kernel)
theorem w_637 : (.methodLink "TextPatternsModel" 104 ⟨"TextPatternsModel", "lastOpen", "()I"⟩ : Cond) ∈ WALL := kw (i := 637) (by decide +kernel) (by decide +kernel)
theorem w_639 : (.instanceMethod ⟨"TextPatternsModel", "lastOpen", "()I"⟩ : Cond) ∈ WALL := kw (i := 639) (by decide +kernel) (by decide +kernel)
theorem w_722 : (.methodLink "TextPatternsLaw" 32 ⟨"TextPatternsModel", "begin", "()V"⟩ : Cond) ∈ WALL := kw (i := 722) (by decide +kernel) (by decide +kernel)
theorem w_723 : (.instanceMethod ⟨"TextPatternsModel", "begin", "()V"⟩ : Cond) ∈ WALL := kw (i := 723) (by decide +kernel) (by decide +kernel)
theorem w_724 : (.selects "TextPatternsModel" ⟨"TextPatternsModel", "begin", "()V"⟩ ⟨"TextPatternsModel", "begin", "()V"⟩ : Cond) ∈ WALL := kw (i := 724) (by decide +kernel) (by decide +kernel)
theorem w_726 : (.methodLink "TextPatternsLaw" 37 ⟨"TextPatternsModel", "next", "()I"⟩ : Cond) ∈ WALL := kw (i := 726) (by decide +kernel) (by decide +kernel)
theorem w_727 : (.instanceMethod ⟨"TextPatternsModel", "next", "()I"⟩ : Cond) ∈ WALL := kw (i := 727) (by decide +kernel) (by decide +kernel)
theorem w_728 : (.selects "TextPatternsModel" ⟨"TextPatternsModel", "next", "()I"⟩ ⟨"TextPatternsModel", "next", "()I"⟩ : Cond) ∈ WALL := kw (i := 728) (by decide +kernel) (by decide +kernel)
theorem w_729 : (.code ⟨"TextPatternsModel", "next", "()I"⟩ prog_7_method_36_code 2 (some .int) : Cond) ∈ WALL := kw (i := 729) (by decide +kernel) (by decide +kernel)
theorem w_730 : (.methodLink "TextPatternsLaw" 41 ⟨"TextPatternsModel", "replace", "(I)I"⟩ : Cond) ∈ WALL := kw (i := 730) (by decide +kernel) (by decide +kernel)
theorem w_731 : (.instanceMethod ⟨"TextPatternsModel", "replace", "(I)I"⟩ : Cond) ∈ WALL := kw (i := 731) (by decide +kernel) (by decide +kernel)
theorem w_732 : (.selects "TextPatternsModel" ⟨"TextPatternsModel", "replace", "(I)I"⟩ ⟨"TextPatternsModel", "replace", "(I)I"⟩ : Cond) ∈ WALL := kw (i := 732) (by decide +kernel) (by decide +kernel)
theorem w_733 : (.code ⟨"TextPatternsModel", "replace", "(I)I"⟩ prog_7_method_42_code 8 (some .int) : Cond) ∈ WALL := kw (i := 733) (by decide +kernel) (by decide +kernel)
theorem w_734 : (.methodLink "TextPatternsModel" 190 ⟨"TextPatternsModel", "makeReplacement", "(I)V"⟩ : Cond) ∈ WALL := kw (i := 734) (by decide +kernel) (by decide +kernel)
theorem w_736 : (.instanceMethod ⟨"TextPatternsModel", "makeReplacement", "(I)V"⟩ : Cond) ∈ WALL := kw (i := 736) (by decide +kernel) (by decide +kernel)
theorem w_737 : (.code ⟨"TextPatternsModel", "makeReplacement", "(I)V"⟩ prog_7_method_41_code 5 none : Cond) ∈ WALL := kw (i := 737) (by decide +kernel) (by decide +kernel)
theorem w_746 : (.methodLink "TextPatternsModel" 180 ⟨"TextPatternsModel", "makeAll", "(II)V"⟩ : Cond) ∈ WALL := kw (i := 746) (by decide +kernel) (by decide +kernel)
theorem w_748 : (.instanceMethod ⟨"TextPatternsModel", "makeAll", "(II)V"⟩ : Cond) ∈ WALL := kw (i := 748) (by decide +kernel) (by decide +kernel)
theorem w_754 : (.methodLink "TextPatternsLaw" 45 ⟨"TextPatternsModel", "looks", "()I"⟩ : Cond) ∈ WALL := kw (i := 754) (by decide +kernel) (by decide +kernel)
theorem w_755 : (.instanceMethod ⟨"TextPatternsModel", "looks", "()I"⟩ : Cond) ∈ WALL := kw (i := 755) (by decide +kernel) (by decide +kernel)
theorem w_756 : (.selects "TextPatternsModel" ⟨"TextPatternsModel", "looks", "()I"⟩ ⟨"TextPatternsModel", "looks", "()I"⟩ : Cond) ∈ WALL := kw (i := 756) (by decide +kernel) (by decide +kernel)
theorem w_758 : (.methodLink "TextPatternsLaw" 49 ⟨"TextPatternsModel", "first", "()I"⟩ : Cond) ∈ WALL := kw (i := 758) (by decide +kernel) (by decide +kernel)
theorem w_759 : (.instanceMethod ⟨"TextPatternsModel", "first", "()I"⟩ : Cond) ∈ WALL := kw (i := 759) (by decide +kernel) (by decide +kernel)
theorem w_760 : (.selects "TextPatternsModel" ⟨"TextPatternsModel", "first", "()I"⟩ ⟨"TextPatternsModel", "first", "()I"⟩ : Cond) ∈ WALL := kw (i := 760) (by decide +kernel) (by decide +kernel)
theorem w_762 : (.methodLink "TextPatternsLaw" 53 ⟨"TextPatternsModel", "last", "()I"⟩ : Cond) ∈ WALL := kw (i := 762) (by decide +kernel) (by decide +kernel)
theorem w_763 : (.instanceMethod ⟨"TextPatternsModel", "last", "()I"⟩ : Cond) ∈ WALL := kw (i := 763) (by decide +kernel) (by decide +kernel)
theorem w_764 : (.selects "TextPatternsModel" ⟨"TextPatternsModel", "last", "()I"⟩ ⟨"TextPatternsModel", "last", "()I"⟩ : Cond) ∈ WALL := kw (i := 764) (by decide +kernel) (by decide +kernel)
theorem w_766 : (.methodLink "TextPatternsLaw" 57 ⟨"TextPatternsModel", "captures", "()I"⟩ : Cond) ∈ WALL := kw (i := 766) (by decide +kernel) (by decide +kernel)
theorem w_767 : (.instanceMethod ⟨"TextPatternsModel", "captures", "()I"⟩ : Cond) ∈ WALL := kw (i := 767) (by decide +kernel) (by decide +kernel)
theorem w_768 : (.selects "TextPatternsModel" ⟨"TextPatternsModel", "captures", "()I"⟩ ⟨"TextPatternsModel", "captures", "()I"⟩ : Cond) ∈ WALL := kw (i := 768) (by decide +kernel) (by decide +kernel)
theorem w_770 : (.methodLink "TextPatternsLaw" 62 ⟨"TextPatternsModel", "capture", "(II)I"⟩ : Cond) ∈ WALL := kw (i := 770) (by decide +kernel) (by decide +kernel)
theorem w_771 : (.instanceMethod ⟨"TextPatternsModel", "capture", "(II)I"⟩ : Cond) ∈ WALL := kw (i := 771) (by decide +kernel) (by decide +kernel)
theorem w_772 : (.selects "TextPatternsModel" ⟨"TextPatternsModel", "capture", "(II)I"⟩ ⟨"TextPatternsModel", "capture", "(II)I"⟩ : Cond) ∈ WALL := kw (i := 772) (by decide +kernel) (by decide +kernel)
theorem w_774 : (.methodLink "TextPatternsLaw" 66 ⟨"TextPatternsModel", "size", "()I"⟩ : Cond) ∈ WALL := kw (i := 774) (by decide +kernel) (by decide +kernel)
theorem w_775 : (.instanceMethod ⟨"TextPatternsModel", "size", "()I"⟩ : Cond) ∈ WALL := kw (i := 775) (by decide +kernel) (by decide +kernel)
theorem w_776 : (.selects "TextPatternsModel" ⟨"TextPatternsModel", "size", "()I"⟩ ⟨"TextPatternsModel", "size", "()I"⟩ : Cond) ∈ WALL := kw (i := 776) (by decide +kernel) (by decide +kernel)
theorem w_778 : (.methodLink "TextPatternsLaw" 70 ⟨"TextPatternsModel", "result", "(I)I"⟩ : Cond) ∈ WALL := kw (i := 778) (by decide +kernel) (by decide +kernel)
theorem w_779 : (.instanceMethod ⟨"TextPatternsModel", "result", "(I)I"⟩ : Cond) ∈ WALL := kw (i := 779) (by decide +kernel) (by decide +kernel)
theorem w_780 : (.selects "TextPatternsModel" ⟨"TextPatternsModel", "result", "(I)I"⟩ ⟨"TextPatternsModel", "result", "(I)I"⟩ : Cond) ∈ WALL := kw (i := 780) (by decide +kernel) (by decide +kernel)
theorem w_782 : (.methodLink "TextPatternsLaw" 74 ⟨"TextPatternsModel", "single", "(I)I"⟩ : Cond) ∈ WALL := kw (i := 782) (by decide +kernel) (by decide +kernel)
theorem w_783 : (.instanceMethod ⟨"TextPatternsModel", "single", "(I)I"⟩ : Cond) ∈ WALL := kw (i := 783) (by decide +kernel) (by decide +kernel)
theorem w_784 : (.selects "TextPatternsModel" ⟨"TextPatternsModel", "single", "(I)I"⟩ ⟨"TextPatternsModel", "single", "(I)I"⟩ : Cond) ∈ WALL := kw (i := 784) (by decide +kernel) (by decide +kernel)
theorem w_786 : (.constantLong "TextPatternsLaw" 13 4294967295 : Cond) ∈ WALL := kw (i := 786) (by decide +kernel) (by decide +kernel)
theorem dX5_tell_0 : decode cX5_tell 0 = .ok (.aload_n 0, 1) := by decide +kernel
theorem dX5_tell_1 : decode cX5_tell 1 = .ok (.iconst 0, 1) := by decide +kernel
theorem dX5_tell_2 : decode cX5_tell 2 = .ok (.putfield 101, 3) := by decide +kernel
theorem dX5_tell_5 : decode cX5_tell 5 = .ok (.iconst 0, 1) := by decide +kernel
theorem dX5_tell_6 : decode cX5_tell 6 = .ok (.istore_n 2, 1) := by decide +kernel
theorem dX5_tell_7 : decode cX5_tell 7 = .ok (.iload_n 2, 1) := by decide +kernel
theorem dX5_tell_8 : decode cX5_tell 8 = .ok (.iload_n 1, 1) := by decide +kernel
theorem dX5_tell_9 : decode cX5_tell 9 = .ok (.if_icmp .ge 114, 3) := by decide +kernel
theorem dX5_tell_12 : decode cX5_tell 12 = .ok (.aload_n 0, 1) := by decide +kernel
theorem dX5_tell_13 : decode cX5_tell 13 = .ok (.getfield 26, 3) := by decide +kernel
theorem dX5_tell_16 : decode cX5_tell 16 = .ok (.iload_n 2, 1) := by decide +kernel
theorem dX5_tell_17 : decode cX5_tell 17 = .ok (.iaload, 1) := by decide +kernel
theorem dX5_tell_18 : decode cX5_tell 18 = .ok (.iconst 4, 1) := by decide +kernel
theorem dX5_tell_19 : decode cX5_tell 19 = .ok (.if_icmp .eq 13, 3) := by decide +kernel
theorem dX5_tell_22 : decode cX5_tell 22 = .ok (.aload_n 0, 1) := by decide +kernel
theorem dX5_tell_23 : decode cX5_tell 23 = .ok (.getfield 26, 3) := by decide +kernel
theorem dX5_tell_26 : decode cX5_tell 26 = .ok (.iload_n 2, 1) := by decide +kernel
theorem dX5_tell_27 : decode cX5_tell 27 = .ok (.iaload, 1) := by decide +kernel
theorem dX5_tell_28 : decode cX5_tell 28 = .ok (.iconst 5, 1) := by decide +kernel
theorem dX5_tell_29 : decode cX5_tell 29 = .ok (.if_icmp .ne 53, 3) := by decide +kernel
theorem dX5_tell_32 : decode cX5_tell 32 = .ok (.aload_n 0, 1) := by decide +kernel
theorem dX5_tell_33 : decode cX5_tell 33 = .ok (.getfield 38, 3) := by decide +kernel
theorem dX5_tell_36 : decode cX5_tell 36 = .ok (.aload_n 0, 1) := by decide +kernel
theorem dX5_tell_37 : decode cX5_tell 37 = .ok (.getfield 101, 3) := by decide +kernel
theorem dX5_tell_40 : decode cX5_tell 40 = .ok (.aload_n 0, 1) := by decide +kernel
theorem dX5_tell_41 : decode cX5_tell 41 = .ok (.getfield 23, 3) := by decide +kernel
theorem dX5_tell_44 : decode cX5_tell 44 = .ok (.iload_n 2, 1) := by decide +kernel
theorem dX5_tell_45 : decode cX5_tell 45 = .ok (.iaload, 1) := by decide +kernel
theorem dX5_tell_46 : decode cX5_tell 46 = .ok (.iastore, 1) := by decide +kernel
theorem dX5_tell_47 : decode cX5_tell 47 = .ok (.aload_n 0, 1) := by decide +kernel
theorem dX5_tell_48 : decode cX5_tell 48 = .ok (.getfield 41, 3) := by decide +kernel
theorem dX5_tell_51 : decode cX5_tell 51 = .ok (.aload_n 0, 1) := by decide +kernel
theorem dX5_tell_52 : decode cX5_tell 52 = .ok (.getfield 101, 3) := by decide +kernel
theorem dX5_tell_55 : decode cX5_tell 55 = .ok (.aload_n 0, 1) := by decide +kernel
theorem dX5_tell_56 : decode cX5_tell 56 = .ok (.getfield 26, 3) := by decide +kernel
theorem dX5_tell_59 : decode cX5_tell 59 = .ok (.iload_n 2, 1) := by decide +kernel
theorem dX5_tell_60 : decode cX5_tell 60 = .ok (.iaload, 1) := by decide +kernel
theorem dX5_tell_61 : decode cX5_tell 61 = .ok (.iconst 5, 1) := by decide +kernel
theorem dX5_tell_62 : decode cX5_tell 62 = .ok (.if_icmp .ne 7, 3) := by decide +kernel
theorem dX5_tell_65 : decode cX5_tell 65 = .ok (.iconst (-1), 1) := by decide +kernel
theorem dX5_tell_66 : decode cX5_tell 66 = .ok (.goto 5, 3) := by decide +kernel
theorem dX5_tell_69 : decode cX5_tell 69 = .ok (.bipush (-2), 2) := by decide +kernel
theorem dX5_tell_71 : decode cX5_tell 71 = .ok (.iastore, 1) := by decide +kernel
theorem dX5_tell_72 : decode cX5_tell 72 = .ok (.aload_n 0, 1) := by decide +kernel
theorem dX5_tell_73 : decode cX5_tell 73 = .ok (.dup, 1) := by decide +kernel
theorem dX5_tell_74 : decode cX5_tell 74 = .ok (.getfield 101, 3) := by decide +kernel
theorem dX5_tell_77 : decode cX5_tell 77 = .ok (.iconst 1, 1) := by decide +kernel
theorem dX5_tell_78 : decode cX5_tell 78 = .ok (.iadd, 1) := by decide +kernel
theorem dX5_tell_79 : decode cX5_tell 79 = .ok (.putfield 101, 3) := by decide +kernel
theorem dX5_tell_82 : decode cX5_tell 82 = .ok (.aload_n 0, 1) := by decide +kernel
theorem dX5_tell_83 : decode cX5_tell 83 = .ok (.getfield 26, 3) := by decide +kernel
theorem dX5_tell_86 : decode cX5_tell 86 = .ok (.iload_n 2, 1) := by decide +kernel
theorem dX5_tell_87 : decode cX5_tell 87 = .ok (.iaload, 1) := by decide +kernel
theorem dX5_tell_88 : decode cX5_tell 88 = .ok (.bipush 6, 2) := by decide +kernel
theorem dX5_tell_90 : decode cX5_tell 90 = .ok (.if_icmp .ne 27, 3) := by decide +kernel
theorem dX5_tell_93 : decode cX5_tell 93 = .ok (.aload_n 0, 1) := by decide +kernel
theorem dX5_tell_94 : decode cX5_tell 94 = .ok (.invokevirtual 104, 3) := by decide +kernel
theorem dX5_tell_97 : decode cX5_tell 97 = .ok (.istore_n 3, 1) := by decide +kernel
theorem dX5_tell_98 : decode cX5_tell 98 = .ok (.aload_n 0, 1) := by decide +kernel
theorem dX5_tell_99 : decode cX5_tell 99 = .ok (.getfield 41, 3) := by decide +kernel
theorem dX5_tell_102 : decode cX5_tell 102 = .ok (.iload_n 3, 1) := by decide +kernel
theorem dX5_tell_103 : decode cX5_tell 103 = .ok (.aload_n 0, 1) := by decide +kernel
theorem dX5_tell_104 : decode cX5_tell 104 = .ok (.getfield 23, 3) := by decide +kernel
theorem dX5_tell_107 : decode cX5_tell 107 = .ok (.iload_n 2, 1) := by decide +kernel
theorem dX5_tell_108 : decode cX5_tell 108 = .ok (.iaload, 1) := by decide +kernel
theorem dX5_tell_109 : decode cX5_tell 109 = .ok (.aload_n 0, 1) := by decide +kernel
theorem dX5_tell_110 : decode cX5_tell 110 = .ok (.getfield 38, 3) := by decide +kernel
theorem dX5_tell_113 : decode cX5_tell 113 = .ok (.iload_n 3, 1) := by decide +kernel
theorem dX5_tell_114 : decode cX5_tell 114 = .ok (.iaload, 1) := by decide +kernel
theorem dX5_tell_115 : decode cX5_tell 115 = .ok (.isub, 1) := by decide +kernel
theorem dX5_tell_116 : decode cX5_tell 116 = .ok (.iastore, 1) := by decide +kernel
theorem dX5_tell_117 : decode cX5_tell 117 = .ok (.iinc 2 1, 3) := by decide +kernel
theorem dX5_tell_120 : decode cX5_tell 120 = .ok (.goto (-113), 3) := by decide +kernel
theorem dX5_tell_123 : decode cX5_tell 123 = .ok (.return_, 1) := by decide +kernel
theorem dX5_matches_0 : decode cX5_matches 0 = .ok (.aload_n 0, 1) := by decide +kernel
theorem dX5_matches_1 : decode cX5_matches 1 = .ok (.iconst 0, 1) := by decide +kernel
theorem dX5_matches_2 : decode cX5_matches 2 = .ok (.putfield 108, 3) := by decide +kernel
theorem dX5_matches_5 : decode cX5_matches 5 = .ok (.iload_n 1, 1) := by decide +kernel
theorem dX5_matches_6 : decode cX5_matches 6 = .ok (.istore_n 3, 1) := by decide +kernel
theorem dX5_matches_7 : decode cX5_matches 7 = .ok (.iload_n 2, 1) := by decide +kernel
theorem dX5_matches_8 : decode cX5_matches 8 = .ok (.istore 4, 2) := by decide +kernel
theorem dX5_matches_10 : decode cX5_matches 10 = .ok (.aload_n 0, 1) := by decide +kernel
theorem dX5_matches_11 : decode cX5_matches 11 = .ok (.getfield 91, 3) := by decide +kernel
theorem dX5_matches_14 : decode cX5_matches 14 = .ok (.ifCond .ne 140, 3) := by decide +kernel
theorem dX5_matches_17 : decode cX5_matches 17 = .ok (.iload_n 3, 1) := by decide +kernel
theorem dX5_matches_18 : decode cX5_matches 18 = .ok (.aload_n 0, 1) := by decide +kernel
theorem dX5_matches_19 : decode cX5_matches 19 = .ok (.getfield 13, 3) := by decide +kernel
theorem dX5_matches_22 : decode cX5_matches 22 = .ok (.iconst 1, 1) := by decide +kernel
theorem dX5_matches_23 : decode cX5_matches 23 = .ok (.iaload, 1) := by decide +kernel
theorem dX5_matches_24 : decode cX5_matches 24 = .ok (.if_icmp .lt 43, 3) := by decide +kernel
theorem dX5_matches_27 : decode cX5_matches 27 = .ok (.aload_n 0, 1) := by decide +kernel
theorem dX5_matches_28 : decode cX5_matches 28 = .ok (.aload_n 0, 1) := by decide +kernel
theorem dX5_matches_29 : decode cX5_matches 29 = .ok (.getfield 108, 3) := by decide +kernel
theorem dX5_matches_32 : decode cX5_matches 32 = .ok (.invokevirtual 111, 3) := by decide +kernel
theorem dX5_matches_35 : decode cX5_matches 35 = .ok (.aload_n 0, 1) := by decide +kernel
theorem dX5_matches_36 : decode cX5_matches 36 = .ok (.invokevirtual 104, 3) := by decide +kernel
theorem dX5_matches_39 : decode cX5_matches 39 = .ok (.ifCond .lt 9, 3) := by decide +kernel
theorem dX5_matches_42 : decode cX5_matches 42 = .ok (.aload_n 0, 1) := by decide +kernel
theorem dX5_matches_43 : decode cX5_matches 43 = .ok (.bipush (-2), 2) := by decide +kernel
theorem dX5_matches_45 : decode cX5_matches 45 = .ok (.putfield 91, 3) := by decide +kernel
theorem dX5_matches_48 : decode cX5_matches 48 = .ok (.aload_n 0, 1) := by decide +kernel
theorem dX5_matches_49 : decode cX5_matches 49 = .ok (.iload 4, 2) := by decide +kernel
theorem dX5_matches_51 : decode cX5_matches 51 = .ok (.putfield 146, 3) := by decide +kernel
theorem dX5_matches_54 : decode cX5_matches 54 = .ok (.aload_n 0, 1) := by decide +kernel
theorem dX5_matches_55 : decode cX5_matches 55 = .ok (.getfield 91, 3) := by decide +kernel
theorem dX5_matches_58 : decode cX5_matches 58 = .ok (.ifCond .ne 7, 3) := by decide +kernel
theorem dX5_matches_61 : decode cX5_matches 61 = .ok (.iconst 1, 1) := by decide +kernel
theorem dX5_matches_62 : decode cX5_matches 62 = .ok (.goto 4, 3) := by decide +kernel
theorem dX5_matches_65 : decode cX5_matches 65 = .ok (.iconst 0, 1) := by decide +kernel
theorem dX5_matches_66 : decode cX5_matches 66 = .ok (.ireturn, 1) := by decide +kernel
theorem dX5_matches_67 : decode cX5_matches 67 = .ok (.aload_n 0, 1) := by decide +kernel
theorem dX5_matches_68 : decode cX5_matches 68 = .ok (.getfield 20, 3) := by decide +kernel
theorem dX5_matches_71 : decode cX5_matches 71 = .ok (.aload_n 0, 1) := by decide +kernel
theorem dX5_matches_72 : decode cX5_matches 72 = .ok (.getfield 108, 3) := by decide +kernel
theorem dX5_matches_75 : decode cX5_matches 75 = .ok (.iload_n 3, 1) := by decide +kernel
theorem dX5_matches_76 : decode cX5_matches 76 = .ok (.iastore, 1) := by decide +kernel
theorem dX5_matches_77 : decode cX5_matches 77 = .ok (.aload_n 0, 1) := by decide +kernel
theorem dX5_matches_78 : decode cX5_matches 78 = .ok (.getfield 23, 3) := by decide +kernel
theorem dX5_matches_81 : decode cX5_matches 81 = .ok (.aload_n 0, 1) := by decide +kernel
theorem dX5_matches_82 : decode cX5_matches 82 = .ok (.getfield 108, 3) := by decide +kernel
theorem dX5_matches_85 : decode cX5_matches 85 = .ok (.iload 4, 2) := by decide +kernel
theorem dX5_matches_87 : decode cX5_matches 87 = .ok (.iastore, 1) := by decide +kernel
theorem dX5_matches_88 : decode cX5_matches 88 = .ok (.aload_n 0, 1) := by decide +kernel
theorem dX5_matches_89 : decode cX5_matches 89 = .ok (.iload_n 3, 1) := by decide +kernel
theorem dX5_matches_90 : decode cX5_matches 90 = .ok (.iload 4, 2) := by decide +kernel
theorem dX5_matches_92 : decode cX5_matches 92 = .ok (.invokevirtual 149, 3) := by decide +kernel
theorem dX5_matches_95 : decode cX5_matches 95 = .ok (.istore 4, 2) := by decide +kernel
theorem dX5_matches_97 : decode cX5_matches 97 = .ok (.iload 4, 2) := by decide +kernel
theorem dX5_matches_99 : decode cX5_matches 99 = .ok (.ifCond .ge 23, 3) := by decide +kernel
theorem dX5_matches_102 : decode cX5_matches 102 = .ok (.aload_n 0, 1) := by decide +kernel
theorem dX5_matches_103 : decode cX5_matches 103 = .ok (.getfield 91, 3) := by decide +kernel
theorem dX5_matches_106 : decode cX5_matches 106 = .ok (.ifCond .ne 10, 3) := by decide +kernel
theorem dX5_matches_109 : decode cX5_matches 109 = .ok (.aload_n 0, 1) := by decide +kernel
theorem dX5_matches_110 : decode cX5_matches 110 = .ok (.invokevirtual 152, 3) := by decide +kernel
theorem dX5_matches_113 : decode cX5_matches 113 = .ok (.goto 4, 3) := by decide +kernel
theorem dX5_matches_116 : decode cX5_matches 116 = .ok (.iconst (-1), 1) := by decide +kernel
theorem dX5_matches_117 : decode cX5_matches 117 = .ok (.istore 4, 2) := by decide +kernel
theorem dX5_matches_119 : decode cX5_matches 119 = .ok (.goto 13, 3) := by decide +kernel
theorem dX5_matches_122 : decode cX5_matches 122 = .ok (.aload_n 0, 1) := by decide +kernel
theorem dX5_matches_123 : decode cX5_matches 123 = .ok (.dup, 1) := by decide +kernel
theorem dX5_matches_124 : decode cX5_matches 124 = .ok (.getfield 108, 3) := by decide +kernel
theorem dX5_matches_127 : decode cX5_matches 127 = .ok (.iconst 1, 1) := by decide +kernel
theorem dX5_matches_128 : decode cX5_matches 128 = .ok (.iadd, 1) := by decide +kernel
theorem dX5_matches_129 : decode cX5_matches 129 = .ok (.putfield 108, 3) := by decide +kernel
theorem dX5_matches_132 : decode cX5_matches 132 = .ok (.iload 4, 2) := by decide +kernel
theorem dX5_matches_134 : decode cX5_matches 134 = .ok (.ifCond .ge 5, 3) := by decide +kernel
theorem dX5_matches_137 : decode cX5_matches 137 = .ok (.iconst 0, 1) := by decide +kernel
theorem dX5_matches_138 : decode cX5_matches 138 = .ok (.ireturn, 1) := by decide +kernel
theorem dX5_matches_139 : decode cX5_matches 139 = .ok (.aload_n 0, 1) := by decide +kernel
theorem dX5_matches_140 : decode cX5_matches 140 = .ok (.getfield 29, 3) := by decide +kernel
theorem dX5_matches_143 : decode cX5_matches 143 = .ok (.aload_n 0, 1) := by decide +kernel
theorem dX5_matches_144 : decode cX5_matches 144 = .ok (.getfield 108, 3) := by decide +kernel
theorem dX5_matches_147 : decode cX5_matches 147 = .ok (.iconst 1, 1) := by decide +kernel
theorem dX5_matches_148 : decode cX5_matches 148 = .ok (.isub, 1) := by decide +kernel
theorem dX5_matches_149 : decode cX5_matches 149 = .ok (.iaload, 1) := by decide +kernel
theorem dX5_matches_150 : decode cX5_matches 150 = .ok (.istore_n 3, 1) := by decide +kernel
theorem dX5_matches_151 : decode cX5_matches 151 = .ok (.goto (-141), 3) := by decide +kernel
theorem dX5_matches_154 : decode cX5_matches 154 = .ok (.iconst 0, 1) := by decide +kernel
theorem dX5_matches_155 : decode cX5_matches 155 = .ok (.ireturn, 1) := by decide +kernel
theorem dX5_search_0 : decode cX5_search 0 = .ok (.aload_n 0, 1) := by decide +kernel
theorem dX5_search_1 : decode cX5_search 1 = .ok (.iconst 0, 1) := by decide +kernel
theorem dX5_search_2 : decode cX5_search 2 = .ok (.putfield 87, 3) := by decide +kernel
theorem dX5_search_5 : decode cX5_search 5 = .ok (.aload_n 0, 1) := by decide +kernel
theorem dX5_search_6 : decode cX5_search 6 = .ok (.iconst 0, 1) := by decide +kernel
theorem dX5_search_7 : decode cX5_search 7 = .ok (.putfield 91, 3) := by decide +kernel
theorem dX5_search_10 : decode cX5_search 10 = .ok (.aload_n 0, 1) := by decide +kernel
theorem dX5_search_11 : decode cX5_search 11 = .ok (.iconst 0, 1) := by decide +kernel
theorem dX5_search_12 : decode cX5_search 12 = .ok (.putfield 55, 3) := by decide +kernel
theorem dX5_search_15 : decode cX5_search 15 = .ok (.iload_n 1, 1) := by decide +kernel
theorem dX5_search_16 : decode cX5_search 16 = .ok (.istore 4, 2) := by decide +kernel
theorem dX5_search_18 : decode cX5_search 18 = .ok (.iload 4, 2) := by decide +kernel
theorem dX5_search_20 : decode cX5_search 20 = .ok (.iload_n 2, 1) := by decide +kernel
theorem dX5_search_21 : decode cX5_search 21 = .ok (.ifCond .eq 7, 3) := by decide +kernel
theorem dX5_search_24 : decode cX5_search 24 = .ok (.iload_n 1, 1) := by decide +kernel
theorem dX5_search_25 : decode cX5_search 25 = .ok (.goto 9, 3) := by decide +kernel
theorem dX5_search_28 : decode cX5_search 28 = .ok (.aload_n 0, 1) := by decide +kernel
theorem dX5_search_29 : decode cX5_search 29 = .ok (.getfield 13, 3) := by decide +kernel
theorem dX5_search_32 : decode cX5_search 32 = .ok (.iconst 0, 1) := by decide +kernel
theorem dX5_search_33 : decode cX5_search 33 = .ok (.iaload, 1) := by decide +kernel
theorem dX5_search_34 : decode cX5_search 34 = .ok (.if_icmp .gt 64, 3) := by decide +kernel
theorem dX5_search_37 : decode cX5_search 37 = .ok (.aload_n 0, 1) := by decide +kernel
theorem dX5_search_38 : decode cX5_search 38 = .ok (.getfield 55, 3) := by decide +kernel
theorem dX5_search_41 : decode cX5_search 41 = .ok (.ifCond .ne 57, 3) := by decide +kernel
theorem dX5_search_44 : decode cX5_search 44 = .ok (.aload_n 0, 1) := by decide +kernel
theorem dX5_search_45 : decode cX5_search 45 = .ok (.getfield 91, 3) := by decide +kernel
theorem dX5_search_48 : decode cX5_search 48 = .ok (.ifCond .ne 50, 3) := by decide +kernel
theorem dX5_search_51 : decode cX5_search 51 = .ok (.aload_n 0, 1) := by decide +kernel
theorem dX5_search_52 : decode cX5_search 52 = .ok (.iload 4, 2) := by decide +kernel
theorem dX5_search_54 : decode cX5_search 54 = .ok (.putfield 158, 3) := by decide +kernel
theorem dX5_search_57 : decode cX5_search 57 = .ok (.aload_n 0, 1) := by decide +kernel
theorem dX5_search_58 : decode cX5_search 58 = .ok (.aload_n 0, 1) := by decide +kernel
theorem dX5_search_59 : decode cX5_search 59 = .ok (.iload_n 2, 1) := by decide +kernel
theorem dX5_search_60 : decode cX5_search 60 = .ok (.ifCond .eq 7, 3) := by decide +kernel
theorem dX5_search_63 : decode cX5_search 63 = .ok (.iconst 1, 1) := by decide +kernel
theorem dX5_search_64 : decode cX5_search 64 = .ok (.goto 4, 3) := by decide +kernel
theorem dX5_search_67 : decode cX5_search 67 = .ok (.iconst 0, 1) := by decide +kernel
theorem dX5_search_68 : decode cX5_search 68 = .ok (.iload 4, 2) := by decide +kernel
theorem dX5_search_70 : decode cX5_search 70 = .ok (.invokevirtual 161, 3) := by decide +kernel
theorem dX5_search_73 : decode cX5_search 73 = .ok (.ifCond .eq 15, 3) := by decide +kernel
theorem dX5_search_76 : decode cX5_search 76 = .ok (.aload_n 0, 1) := by decide +kernel
theorem dX5_search_77 : decode cX5_search 77 = .ok (.getfield 146, 3) := by decide +kernel
theorem dX5_search_80 : decode cX5_search 80 = .ok (.iload_n 3, 1) := by decide +kernel
theorem dX5_search_81 : decode cX5_search 81 = .ok (.if_icmp .eq 7, 3) := by decide +kernel
theorem dX5_search_84 : decode cX5_search 84 = .ok (.iconst 1, 1) := by decide +kernel
theorem dX5_search_85 : decode cX5_search 85 = .ok (.goto 4, 3) := by decide +kernel
theorem dX5_search_88 : decode cX5_search 88 = .ok (.iconst 0, 1) := by decide +kernel
theorem dX5_search_89 : decode cX5_search 89 = .ok (.putfield 55, 3) := by decide +kernel
theorem dX5_search_92 : decode cX5_search 92 = .ok (.iinc 4 1, 3) := by decide +kernel
theorem dX5_search_95 : decode cX5_search 95 = .ok (.goto (-77), 3) := by decide +kernel
theorem dX5_search_98 : decode cX5_search 98 = .ok (.aload_n 0, 1) := by decide +kernel
theorem dX5_search_99 : decode cX5_search 99 = .ok (.getfield 55, 3) := by decide +kernel
theorem dX5_search_102 : decode cX5_search 102 = .ok (.ifCond .eq 7, 3) := by decide +kernel
theorem dX5_search_105 : decode cX5_search 105 = .ok (.iconst 1, 1) := by decide +kernel
theorem dX5_search_106 : decode cX5_search 106 = .ok (.goto 7, 3) := by decide +kernel
theorem dX5_search_109 : decode cX5_search 109 = .ok (.aload_n 0, 1) := by decide +kernel
theorem dX5_search_110 : decode cX5_search 110 = .ok (.getfield 91, 3) := by decide +kernel
theorem dX5_search_113 : decode cX5_search 113 = .ok (.ireturn, 1) := by decide +kernel
theorem dX5_find_0 : decode cX5_find 0 = .ok (.iload_n 1, 1) := by decide +kernel
theorem dX5_find_1 : decode cX5_find 1 = .ok (.ifCond .lt 13, 3) := by decide +kernel
theorem dX5_find_4 : decode cX5_find 4 = .ok (.iload_n 1, 1) := by decide +kernel
theorem dX5_find_5 : decode cX5_find 5 = .ok (.aload_n 0, 1) := by decide +kernel
theorem dX5_find_6 : decode cX5_find 6 = .ok (.getfield 13, 3) := by decide +kernel
theorem dX5_find_9 : decode cX5_find 9 = .ok (.iconst 0, 1) := by decide +kernel
theorem dX5_find_10 : decode cX5_find 10 = .ok (.iaload, 1) := by decide +kernel
theorem dX5_find_11 : decode cX5_find 11 = .ok (.if_icmp .le 7, 3) := by decide +kernel
theorem dX5_find_14 : decode cX5_find 14 = .ok (.iconst (-1), 1) := by decide +kernel
theorem dX5_find_15 : decode cX5_find 15 = .ok (.goto 13, 3) := by decide +kernel
theorem dX5_find_18 : decode cX5_find 18 = .ok (.aload_n 0, 1) := by decide +kernel
theorem dX5_find_19 : decode cX5_find 19 = .ok (.iload_n 1, 1) := by decide +kernel
theorem dX5_find_20 : decode cX5_find 20 = .ok (.aload_n 0, 1) := by decide +kernel
theorem dX5_find_21 : decode cX5_find 21 = .ok (.invokevirtual 164, 3) := by decide +kernel
theorem dX5_find_24 : decode cX5_find 24 = .ok (.iconst (-1), 1) := by decide +kernel
theorem dX5_find_25 : decode cX5_find 25 = .ok (.invokevirtual 167, 3) := by decide +kernel
theorem dX5_find_28 : decode cX5_find 28 = .ok (.ireturn, 1) := by decide +kernel
theorem dX5_next_0 : decode cX5_next 0 = .ok (.aload_n 0, 1) := by decide +kernel
theorem dX5_next_1 : decode cX5_next 1 = .ok (.iconst 0, 1) := by decide +kernel
theorem dX5_next_2 : decode cX5_next 2 = .ok (.putfield 87, 3) := by decide +kernel
theorem dX5_next_5 : decode cX5_next 5 = .ok (.aload_n 0, 1) := by decide +kernel
theorem dX5_next_6 : decode cX5_next 6 = .ok (.iconst 0, 1) := by decide +kernel
theorem dX5_next_7 : decode cX5_next 7 = .ok (.putfield 55, 3) := by decide +kernel
theorem dX5_next_10 : decode cX5_next 10 = .ok (.aload_n 0, 1) := by decide +kernel
theorem dX5_next_11 : decode cX5_next 11 = .ok (.getfield 171, 3) := by decide +kernel
theorem dX5_next_14 : decode cX5_next 14 = .ok (.ifCond .lt 16, 3) := by decide +kernel
theorem dX5_next_17 : decode cX5_next 17 = .ok (.aload_n 0, 1) := by decide +kernel
theorem dX5_next_18 : decode cX5_next 18 = .ok (.getfield 171, 3) := by decide +kernel
theorem dX5_next_21 : decode cX5_next 21 = .ok (.aload_n 0, 1) := by decide +kernel
theorem dX5_next_22 : decode cX5_next 22 = .ok (.getfield 13, 3) := by decide +kernel
theorem dX5_next_25 : decode cX5_next 25 = .ok (.iconst 0, 1) := by decide +kernel
theorem dX5_next_26 : decode cX5_next 26 = .ok (.iaload, 1) := by decide +kernel
theorem dX5_next_27 : decode cX5_next 27 = .ok (.if_icmp .le 5, 3) := by decide +kernel
theorem dX5_next_30 : decode cX5_next 30 = .ok (.iconst 0, 1) := by decide +kernel
theorem dX5_next_31 : decode cX5_next 31 = .ok (.ireturn, 1) := by decide +kernel
theorem dX5_next_32 : decode cX5_next 32 = .ok (.aload_n 0, 1) := by decide +kernel
theorem dX5_next_33 : decode cX5_next 33 = .ok (.aload_n 0, 1) := by decide +kernel
theorem dX5_next_34 : decode cX5_next 34 = .ok (.getfield 171, 3) := by decide +kernel
theorem dX5_next_37 : decode cX5_next 37 = .ok (.iconst 0, 1) := by decide +kernel
theorem dX5_next_38 : decode cX5_next 38 = .ok (.aload_n 0, 1) := by decide +kernel
theorem dX5_next_39 : decode cX5_next 39 = .ok (.getfield 44, 3) := by decide +kernel
theorem dX5_next_42 : decode cX5_next 42 = .ok (.invokevirtual 167, 3) := by decide +kernel
theorem dX5_next_45 : decode cX5_next 45 = .ok (.istore_n 1, 1) := by decide +kernel
theorem dX5_next_46 : decode cX5_next 46 = .ok (.aload_n 0, 1) := by decide +kernel
theorem dX5_next_47 : decode cX5_next 47 = .ok (.iload_n 1, 1) := by decide +kernel
theorem dX5_next_48 : decode cX5_next 48 = .ok (.iconst 1, 1) := by decide +kernel
theorem dX5_next_49 : decode cX5_next 49 = .ok (.if_icmp .ne 10, 3) := by decide +kernel
theorem dX5_next_52 : decode cX5_next 52 = .ok (.aload_n 0, 1) := by decide +kernel
theorem dX5_next_53 : decode cX5_next 53 = .ok (.getfield 146, 3) := by decide +kernel
theorem dX5_next_56 : decode cX5_next 56 = .ok (.goto 4, 3) := by decide +kernel
theorem dX5_next_59 : decode cX5_next 59 = .ok (.iconst (-1), 1) := by decide +kernel
theorem dX5_next_60 : decode cX5_next 60 = .ok (.putfield 171, 3) := by decide +kernel
theorem dX5_next_63 : decode cX5_next 63 = .ok (.aload_n 0, 1) := by decide +kernel
theorem dX5_next_64 : decode cX5_next 64 = .ok (.iload_n 1, 1) := by decide +kernel
theorem dX5_next_65 : decode cX5_next 65 = .ok (.iconst 1, 1) := by decide +kernel
theorem dX5_next_66 : decode cX5_next 66 = .ok (.if_icmp .ne 10, 3) := by decide +kernel
theorem dX5_next_69 : decode cX5_next 69 = .ok (.aload_n 0, 1) := by decide +kernel
theorem dX5_next_70 : decode cX5_next 70 = .ok (.getfield 146, 3) := by decide +kernel
theorem dX5_next_73 : decode cX5_next 73 = .ok (.goto 4, 3) := by decide +kernel
theorem dX5_next_76 : decode cX5_next 76 = .ok (.iconst (-1), 1) := by decide +kernel
theorem dX5_next_77 : decode cX5_next 77 = .ok (.putfield 44, 3) := by decide +kernel
theorem dX5_next_80 : decode cX5_next 80 = .ok (.iload_n 1, 1) := by decide +kernel
theorem dX5_next_81 : decode cX5_next 81 = .ok (.ireturn, 1) := by decide +kernel
theorem dX5_makeReplacement_0 : decode cX5_makeReplacement 0 = .ok (.iconst 0, 1) := by decide +kernel
theorem dX5_makeReplacement_1 : decode cX5_makeReplacement 1 = .ok (.istore_n 2, 1) := by decide +kernel
theorem dX5_makeReplacement_2 : decode cX5_makeReplacement 2 = .ok (.iload_n 2, 1) := by decide +kernel
theorem dX5_makeReplacement_3 : decode cX5_makeReplacement 3 = .ok (.aload_n 0, 1) := by decide +kernel
theorem dX5_makeReplacement_4 : decode cX5_makeReplacement 4 = .ok (.getfield 13, 3) := by decide +kernel
theorem dX5_makeReplacement_7 : decode cX5_makeReplacement 7 = .ok (.iconst 2, 1) := by decide +kernel
theorem dX5_makeReplacement_8 : decode cX5_makeReplacement 8 = .ok (.iaload, 1) := by decide +kernel
theorem dX5_makeReplacement_9 : decode cX5_makeReplacement 9 = .ok (.if_icmp .ge 101, 3) := by decide +kernel
theorem dX5_makeReplacement_12 : decode cX5_makeReplacement 12 = .ok (.aload_n 0, 1) := by decide +kernel
theorem dX5_makeReplacement_13 : decode cX5_makeReplacement 13 = .ok (.getfield 91, 3) := by decide +kernel
theorem dX5_makeReplacement_16 : decode cX5_makeReplacement 16 = .ok (.ifCond .ne 94, 3) := by decide +kernel
theorem dX5_makeReplacement_19 : decode cX5_makeReplacement 19 = .ok (.aload_n 0, 1) := by decide +kernel
theorem dX5_makeReplacement_20 : decode cX5_makeReplacement 20 = .ok (.iconst 2, 1) := by decide +kernel
theorem dX5_makeReplacement_21 : decode cX5_makeReplacement 21 = .ok (.iload_n 2, 1) := by decide +kernel
theorem dX5_makeReplacement_22 : decode cX5_makeReplacement 22 = .ok (.invokevirtual 59, 3) := by decide +kernel
theorem dX5_makeReplacement_25 : decode cX5_makeReplacement 25 = .ok (.istore_n 3, 1) := by decide +kernel
theorem dX5_makeReplacement_26 : decode cX5_makeReplacement 26 = .ok (.aload_n 0, 1) := by decide +kernel
theorem dX5_makeReplacement_27 : decode cX5_makeReplacement 27 = .ok (.iconst 2, 1) := by decide +kernel
theorem dX5_makeReplacement_28 : decode cX5_makeReplacement 28 = .ok (.iload_n 2, 1) := by decide +kernel
theorem dX5_makeReplacement_29 : decode cX5_makeReplacement 29 = .ok (.iconst 1, 1) := by decide +kernel
theorem dX5_makeReplacement_30 : decode cX5_makeReplacement 30 = .ok (.iadd, 1) := by decide +kernel
theorem dX5_makeReplacement_31 : decode cX5_makeReplacement 31 = .ok (.invokevirtual 59, 3) := by decide +kernel
theorem dX5_makeReplacement_34 : decode cX5_makeReplacement 34 = .ok (.istore 4, 2) := by decide +kernel
theorem dX5_makeReplacement_36 : decode cX5_makeReplacement 36 = .ok (.iload_n 3, 1) := by decide +kernel
theorem dX5_makeReplacement_37 : decode cX5_makeReplacement 37 = .ok (.bipush 37, 2) := by decide +kernel
theorem dX5_makeReplacement_39 : decode cX5_makeReplacement 39 = .ok (.if_icmp .eq 11, 3) := by decide +kernel
theorem dX5_makeReplacement_42 : decode cX5_makeReplacement 42 = .ok (.aload_n 0, 1) := by decide +kernel
theorem dX5_makeReplacement_43 : decode cX5_makeReplacement 43 = .ok (.iload_n 3, 1) := by decide +kernel
theorem dX5_makeReplacement_44 : decode cX5_makeReplacement 44 = .ok (.invokevirtual 177, 3) := by decide +kernel
theorem dX5_makeReplacement_47 : decode cX5_makeReplacement 47 = .ok (.goto 46, 3) := by decide +kernel
theorem dX5_makeReplacement_50 : decode cX5_makeReplacement 50 = .ok (.iload 4, 2) := by decide +kernel
theorem dX5_makeReplacement_52 : decode cX5_makeReplacement 52 = .ok (.bipush 37, 2) := by decide +kernel
theorem dX5_makeReplacement_54 : decode cX5_makeReplacement 54 = .ok (.if_icmp .ne 12, 3) := by decide +kernel
theorem dX5_makeReplacement_57 : decode cX5_makeReplacement 57 = .ok (.aload_n 0, 1) := by decide +kernel
theorem dX5_makeReplacement_58 : decode cX5_makeReplacement 58 = .ok (.iload 4, 2) := by decide +kernel
theorem dX5_makeReplacement_60 : decode cX5_makeReplacement 60 = .ok (.invokevirtual 177, 3) := by decide +kernel
theorem dX5_makeReplacement_63 : decode cX5_makeReplacement 63 = .ok (.goto 30, 3) := by decide +kernel
theorem dX5_makeReplacement_66 : decode cX5_makeReplacement 66 = .ok (.iload 4, 2) := by decide +kernel
theorem dX5_makeReplacement_68 : decode cX5_makeReplacement 68 = .ok (.invokestatic 71, 3) := by decide +kernel
theorem dX5_makeReplacement_71 : decode cX5_makeReplacement 71 = .ok (.ifCond .eq 16, 3) := by decide +kernel
theorem dX5_makeReplacement_74 : decode cX5_makeReplacement 74 = .ok (.aload_n 0, 1) := by decide +kernel
theorem dX5_makeReplacement_75 : decode cX5_makeReplacement 75 = .ok (.iload 4, 2) := by decide +kernel
theorem dX5_makeReplacement_77 : decode cX5_makeReplacement 77 = .ok (.bipush 49, 2) := by decide +kernel
theorem dX5_makeReplacement_79 : decode cX5_makeReplacement 79 = .ok (.isub, 1) := by decide +kernel
theorem dX5_makeReplacement_80 : decode cX5_makeReplacement 80 = .ok (.iload_n 1, 1) := by decide +kernel
theorem dX5_makeReplacement_81 : decode cX5_makeReplacement 81 = .ok (.invokevirtual 187, 3) := by decide +kernel
theorem dX5_makeReplacement_84 : decode cX5_makeReplacement 84 = .ok (.goto 9, 3) := by decide +kernel
theorem dX5_makeReplacement_87 : decode cX5_makeReplacement 87 = .ok (.aload_n 0, 1) := by decide +kernel
theorem dX5_makeReplacement_88 : decode cX5_makeReplacement 88 = .ok (.bipush (-2), 2) := by decide +kernel
theorem dX5_makeReplacement_90 : decode cX5_makeReplacement 90 = .ok (.putfield 91, 3) := by decide +kernel
theorem dX5_makeReplacement_93 : decode cX5_makeReplacement 93 = .ok (.iload_n 2, 1) := by decide +kernel
theorem dX5_makeReplacement_94 : decode cX5_makeReplacement 94 = .ok (.iload_n 3, 1) := by decide +kernel
theorem dX5_makeReplacement_95 : decode cX5_makeReplacement 95 = .ok (.bipush 37, 2) := by decide +kernel
theorem dX5_makeReplacement_97 : decode cX5_makeReplacement 97 = .ok (.if_icmp .ne 7, 3) := by decide +kernel
theorem dX5_makeReplacement_100 : decode cX5_makeReplacement 100 = .ok (.iconst 2, 1) := by decide +kernel
theorem dX5_makeReplacement_101 : decode cX5_makeReplacement 101 = .ok (.goto 4, 3) := by decide +kernel
theorem dX5_makeReplacement_104 : decode cX5_makeReplacement 104 = .ok (.iconst 1, 1) := by decide +kernel
theorem dX5_makeReplacement_105 : decode cX5_makeReplacement 105 = .ok (.iadd, 1) := by decide +kernel
theorem dX5_makeReplacement_106 : decode cX5_makeReplacement 106 = .ok (.istore_n 2, 1) := by decide +kernel
theorem dX5_makeReplacement_107 : decode cX5_makeReplacement 107 = .ok (.goto (-105), 3) := by decide +kernel
theorem dX5_makeReplacement_110 : decode cX5_makeReplacement 110 = .ok (.return_, 1) := by decide +kernel
theorem dX5_replace_0 : decode cX5_replace 0 = .ok (.iload_n 1, 1) := by decide +kernel
theorem dX5_replace_1 : decode cX5_replace 1 = .ok (.ifCond .ge 5, 3) := by decide +kernel
theorem dX5_replace_4 : decode cX5_replace 4 = .ok (.iconst (-1), 1) := by decide +kernel
theorem dX5_replace_5 : decode cX5_replace 5 = .ok (.ireturn, 1) := by decide +kernel
theorem dX5_replace_6 : decode cX5_replace 6 = .ok (.aload_n 0, 1) := by decide +kernel
theorem dX5_replace_7 : decode cX5_replace 7 = .ok (.iconst 0, 1) := by decide +kernel
theorem dX5_replace_8 : decode cX5_replace 8 = .ok (.putfield 87, 3) := by decide +kernel
theorem dX5_replace_11 : decode cX5_replace 11 = .ok (.aload_n 0, 1) := by decide +kernel
theorem dX5_replace_12 : decode cX5_replace 12 = .ok (.iconst 0, 1) := by decide +kernel
theorem dX5_replace_13 : decode cX5_replace 13 = .ok (.putfield 91, 3) := by decide +kernel
theorem dX5_replace_16 : decode cX5_replace 16 = .ok (.aload_n 0, 1) := by decide +kernel
theorem dX5_replace_17 : decode cX5_replace 17 = .ok (.iconst 0, 1) := by decide +kernel
theorem dX5_replace_18 : decode cX5_replace 18 = .ok (.putfield 55, 3) := by decide +kernel
theorem dX5_replace_21 : decode cX5_replace 21 = .ok (.aload_n 0, 1) := by decide +kernel
theorem dX5_replace_22 : decode cX5_replace 22 = .ok (.iconst 0, 1) := by decide +kernel
theorem dX5_replace_23 : decode cX5_replace 23 = .ok (.putfield 174, 3) := by decide +kernel
theorem dX5_replace_26 : decode cX5_replace 26 = .ok (.aload_n 0, 1) := by decide +kernel
theorem dX5_replace_27 : decode cX5_replace 27 = .ok (.invokevirtual 164, 3) := by decide +kernel
theorem dX5_replace_30 : decode cX5_replace 30 = .ok (.istore_n 2, 1) := by decide +kernel
theorem dX5_replace_31 : decode cX5_replace 31 = .ok (.iconst 0, 1) := by decide +kernel
theorem dX5_replace_32 : decode cX5_replace 32 = .ok (.istore_n 3, 1) := by decide +kernel
theorem dX5_replace_33 : decode cX5_replace 33 = .ok (.iconst 0, 1) := by decide +kernel
theorem dX5_replace_34 : decode cX5_replace 34 = .ok (.istore 4, 2) := by decide +kernel
theorem dX5_replace_36 : decode cX5_replace 36 = .ok (.iconst (-1), 1) := by decide +kernel
theorem dX5_replace_37 : decode cX5_replace 37 = .ok (.istore 5, 2) := by decide +kernel
theorem dX5_replace_39 : decode cX5_replace 39 = .ok (.iconst 1, 1) := by decide +kernel
theorem dX5_replace_40 : decode cX5_replace 40 = .ok (.istore 6, 2) := by decide +kernel
theorem dX5_replace_42 : decode cX5_replace 42 = .ok (.iload 6, 2) := by decide +kernel
theorem dX5_replace_44 : decode cX5_replace 44 = .ok (.ifCond .eq 135, 3) := by decide +kernel
theorem dX5_replace_47 : decode cX5_replace 47 = .ok (.iload_n 3, 1) := by decide +kernel
theorem dX5_replace_48 : decode cX5_replace 48 = .ok (.iload_n 1, 1) := by decide +kernel
theorem dX5_replace_49 : decode cX5_replace 49 = .ok (.if_icmp .ge 130, 3) := by decide +kernel
theorem dX5_replace_52 : decode cX5_replace 52 = .ok (.aload_n 0, 1) := by decide +kernel
theorem dX5_replace_53 : decode cX5_replace 53 = .ok (.getfield 91, 3) := by decide +kernel
theorem dX5_replace_56 : decode cX5_replace 56 = .ok (.ifCond .ne 123, 3) := by decide +kernel
theorem dX5_replace_59 : decode cX5_replace 59 = .ok (.aload_n 0, 1) := by decide +kernel
theorem dX5_replace_60 : decode cX5_replace 60 = .ok (.iload_n 2, 1) := by decide +kernel
theorem dX5_replace_61 : decode cX5_replace 61 = .ok (.ifCond .eq 7, 3) := by decide +kernel
theorem dX5_replace_64 : decode cX5_replace 64 = .ok (.iconst 1, 1) := by decide +kernel
theorem dX5_replace_65 : decode cX5_replace 65 = .ok (.goto 4, 3) := by decide +kernel
theorem dX5_replace_68 : decode cX5_replace 68 = .ok (.iconst 0, 1) := by decide +kernel
theorem dX5_replace_69 : decode cX5_replace 69 = .ok (.iload 4, 2) := by decide +kernel
theorem dX5_replace_71 : decode cX5_replace 71 = .ok (.invokevirtual 161, 3) := by decide +kernel
theorem dX5_replace_74 : decode cX5_replace 74 = .ok (.ifCond .eq 16, 3) := by decide +kernel
theorem dX5_replace_77 : decode cX5_replace 77 = .ok (.aload_n 0, 1) := by decide +kernel
theorem dX5_replace_78 : decode cX5_replace 78 = .ok (.getfield 146, 3) := by decide +kernel
theorem dX5_replace_81 : decode cX5_replace 81 = .ok (.iload 5, 2) := by decide +kernel
theorem dX5_replace_83 : decode cX5_replace 83 = .ok (.if_icmp .eq 7, 3) := by decide +kernel
theorem dX5_replace_86 : decode cX5_replace 86 = .ok (.iconst 1, 1) := by decide +kernel
theorem dX5_replace_87 : decode cX5_replace 87 = .ok (.goto 4, 3) := by decide +kernel
theorem dX5_replace_90 : decode cX5_replace 90 = .ok (.iconst 0, 1) := by decide +kernel
theorem dX5_replace_91 : decode cX5_replace 91 = .ok (.istore 7, 2) := by decide +kernel
theorem dX5_replace_93 : decode cX5_replace 93 = .ok (.iload 7, 2) := by decide +kernel
theorem dX5_replace_95 : decode cX5_replace 95 = .ok (.ifCond .eq 27, 3) := by decide +kernel
theorem dX5_replace_98 : decode cX5_replace 98 = .ok (.iinc 3 1, 3) := by decide +kernel
theorem dX5_replace_101 : decode cX5_replace 101 = .ok (.aload_n 0, 1) := by decide +kernel
theorem dX5_replace_102 : decode cX5_replace 102 = .ok (.iload 4, 2) := by decide +kernel
theorem dX5_replace_104 : decode cX5_replace 104 = .ok (.invokevirtual 190, 3) := by decide +kernel
theorem dX5_replace_107 : decode cX5_replace 107 = .ok (.aload_n 0, 1) := by decide +kernel
theorem dX5_replace_108 : decode cX5_replace 108 = .ok (.getfield 146, 3) := by decide +kernel
theorem dX5_replace_111 : decode cX5_replace 111 = .ok (.istore 4, 2) := by decide +kernel
theorem dX5_replace_113 : decode cX5_replace 113 = .ok (.aload_n 0, 1) := by decide +kernel
theorem dX5_replace_114 : decode cX5_replace 114 = .ok (.getfield 146, 3) := by decide +kernel
theorem dX5_replace_117 : decode cX5_replace 117 = .ok (.istore 5, 2) := by decide +kernel
theorem dX5_replace_119 : decode cX5_replace 119 = .ok (.goto 41, 3) := by decide +kernel
theorem dX5_replace_122 : decode cX5_replace 122 = .ok (.aload_n 0, 1) := by decide +kernel
theorem dX5_replace_123 : decode cX5_replace 123 = .ok (.getfield 91, 3) := by decide +kernel
theorem dX5_replace_126 : decode cX5_replace 126 = .ok (.ifCond .ne 31, 3) := by decide +kernel
theorem dX5_replace_129 : decode cX5_replace 129 = .ok (.iload 4, 2) := by decide +kernel
theorem dX5_replace_131 : decode cX5_replace 131 = .ok (.aload_n 0, 1) := by decide +kernel
theorem dX5_replace_132 : decode cX5_replace 132 = .ok (.getfield 13, 3) := by decide +kernel
theorem dX5_replace_135 : decode cX5_replace 135 = .ok (.iconst 0, 1) := by decide +kernel
theorem dX5_replace_136 : decode cX5_replace 136 = .ok (.iaload, 1) := by decide +kernel
theorem dX5_replace_137 : decode cX5_replace 137 = .ok (.if_icmp .ge 20, 3) := by decide +kernel
theorem dX5_replace_140 : decode cX5_replace 140 = .ok (.aload_n 0, 1) := by decide +kernel
theorem dX5_replace_141 : decode cX5_replace 141 = .ok (.aload_n 0, 1) := by decide +kernel
theorem dX5_replace_142 : decode cX5_replace 142 = .ok (.iconst 0, 1) := by decide +kernel
theorem dX5_replace_143 : decode cX5_replace 143 = .ok (.iload 4, 2) := by decide +kernel
theorem dX5_replace_145 : decode cX5_replace 145 = .ok (.invokevirtual 59, 3) := by decide +kernel
theorem dX5_replace_148 : decode cX5_replace 148 = .ok (.invokevirtual 177, 3) := by decide +kernel
theorem dX5_replace_151 : decode cX5_replace 151 = .ok (.iinc 4 1, 3) := by decide +kernel
theorem dX5_replace_154 : decode cX5_replace 154 = .ok (.goto 6, 3) := by decide +kernel
theorem dX5_replace_157 : decode cX5_replace 157 = .ok (.iconst 0, 1) := by decide +kernel
theorem dX5_replace_158 : decode cX5_replace 158 = .ok (.istore 6, 2) := by decide +kernel
theorem dX5_replace_160 : decode cX5_replace 160 = .ok (.iload 6, 2) := by decide +kernel
theorem dX5_replace_162 : decode cX5_replace 162 = .ok (.ifCond .eq 11, 3) := by decide +kernel
theorem dX5_replace_165 : decode cX5_replace 165 = .ok (.iload_n 2, 1) := by decide +kernel
theorem dX5_replace_166 : decode cX5_replace 166 = .ok (.ifCond .ne 7, 3) := by decide +kernel
theorem dX5_replace_169 : decode cX5_replace 169 = .ok (.iconst 1, 1) := by decide +kernel
theorem dX5_replace_170 : decode cX5_replace 170 = .ok (.goto 4, 3) := by decide +kernel
theorem dX5_replace_173 : decode cX5_replace 173 = .ok (.iconst 0, 1) := by decide +kernel
theorem dX5_replace_174 : decode cX5_replace 174 = .ok (.istore 6, 2) := by decide +kernel
theorem dX5_replace_176 : decode cX5_replace 176 = .ok (.goto (-134), 3) := by decide +kernel
theorem dX5_replace_179 : decode cX5_replace 179 = .ok (.aload_n 0, 1) := by decide +kernel
theorem dX5_replace_180 : decode cX5_replace 180 = .ok (.iload 4, 2) := by decide +kernel
theorem dX5_replace_182 : decode cX5_replace 182 = .ok (.aload_n 0, 1) := by decide +kernel
theorem dX5_replace_183 : decode cX5_replace 183 = .ok (.getfield 13, 3) := by decide +kernel
theorem dX5_replace_186 : decode cX5_replace 186 = .ok (.iconst 0, 1) := by decide +kernel
theorem dX5_replace_187 : decode cX5_replace 187 = .ok (.iaload, 1) := by decide +kernel
theorem dX5_replace_188 : decode cX5_replace 188 = .ok (.invokevirtual 180, 3) := by decide +kernel
theorem dX5_replace_191 : decode cX5_replace 191 = .ok (.aload_n 0, 1) := by decide +kernel
theorem dX5_replace_192 : decode cX5_replace 192 = .ok (.getfield 91, 3) := by decide +kernel
theorem dX5_replace_195 : decode cX5_replace 195 = .ok (.ifCond .eq 8, 3) := by decide +kernel
theorem dX5_replace_198 : decode cX5_replace 198 = .ok (.aload_n 0, 1) := by decide +kernel
theorem dX5_replace_199 : decode cX5_replace 199 = .ok (.iconst 0, 1) := by decide +kernel
theorem dX5_replace_200 : decode cX5_replace 200 = .ok (.putfield 174, 3) := by decide +kernel
theorem dX5_replace_203 : decode cX5_replace 203 = .ok (.aload_n 0, 1) := by decide +kernel
theorem dX5_replace_204 : decode cX5_replace 204 = .ok (.getfield 91, 3) := by decide +kernel
theorem dX5_replace_207 : decode cX5_replace 207 = .ok (.ifCond .eq 10, 3) := by decide +kernel
theorem dX5_replace_210 : decode cX5_replace 210 = .ok (.aload_n 0, 1) := by decide +kernel
theorem dX5_replace_211 : decode cX5_replace 211 = .ok (.getfield 91, 3) := by decide +kernel
theorem dX5_replace_214 : decode cX5_replace 214 = .ok (.goto 4, 3) := by decide +kernel
theorem dX5_replace_217 : decode cX5_replace 217 = .ok (.iload_n 3, 1) := by decide +kernel
theorem dX5_replace_218 : decode cX5_replace 218 = .ok (.ireturn, 1) := by decide +kernel
