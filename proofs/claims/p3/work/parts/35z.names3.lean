abbrev cX5_tell : ByteArray := prog_7_method_18_code
abbrev yX5_tell : MethodName := ⟨"TextPatternsModel", "tell", "(I)V"⟩
abbrev wsX5_tell : List Cond := .code yX5_tell cX5_tell 4 none :: WALL
abbrev cX5_opens : ByteArray := prog_7_method_22_code
abbrev yX5_opens : MethodName := ⟨"TextPatternsModel", "opens", "(II)I"⟩
abbrev wsX5_opens : List Cond := .code yX5_opens cX5_opens 3 (some .int) :: WALL
abbrev cX5_closes : ByteArray := prog_7_method_23_code
abbrev yX5_closes : MethodName := ⟨"TextPatternsModel", "closes", "(II)I"⟩
abbrev wsX5_closes : List Cond := .code yX5_closes cX5_closes 3 (some .int) :: WALL
abbrev cX5_again : ByteArray := prog_7_method_24_code
abbrev yX5_again : MethodName := ⟨"TextPatternsModel", "again", "(III)I"⟩
abbrev wsX5_again : List Cond := .code yX5_again cX5_again 7 (some .int) :: WALL
abbrev cX5_single : ByteArray := prog_7_method_27_code
abbrev yX5_single : MethodName := ⟨"TextPatternsModel", "single", "(II)I"⟩
abbrev wsX5_single : List Cond := .code yX5_single cX5_single 6 (some .int) :: WALL
abbrev cX5_come : ByteArray := prog_7_method_28_code
abbrev yX5_come : MethodName := ⟨"TextPatternsModel", "come", "(II)I"⟩
abbrev wsX5_come : List Cond := .code yX5_come cX5_come 5 (some .int) :: WALL
abbrev cX5_change : ByteArray := prog_7_method_29_code
abbrev yX5_change : MethodName := ⟨"TextPatternsModel", "change", "(I)I"⟩
abbrev wsX5_change : List Cond := .code yX5_change cX5_change 2 (some .int) :: WALL
abbrev cX5_back : ByteArray := prog_7_method_31_code
abbrev yX5_back : MethodName := ⟨"TextPatternsModel", "back", "()I"⟩
abbrev wsX5_back : List Cond := .code yX5_back cX5_back 2 (some .int) :: WALL
abbrev cX5_matches : ByteArray := prog_7_method_30_code
abbrev yX5_matches : MethodName := ⟨"TextPatternsModel", "matches", "(II)Z"⟩
abbrev wsX5_matches : List Cond := .code yX5_matches cX5_matches 5 (some .boolean) :: WALL
abbrev cX5_search : ByteArray := prog_7_method_33_code
abbrev yX5_search : MethodName := ⟨"TextPatternsModel", "search", "(IZI)I"⟩
abbrev wsX5_search : List Cond := .code yX5_search cX5_search 5 (some .int) :: WALL
abbrev cX5_find : ByteArray := prog_7_method_34_code
abbrev yX5_find : MethodName := ⟨"TextPatternsModel", "find", "(I)I"⟩
abbrev wsX5_find : List Cond := .code yX5_find cX5_find 2 (some .int) :: WALL
abbrev cX5_next : ByteArray := prog_7_method_36_code
abbrev yX5_next : MethodName := ⟨"TextPatternsModel", "next", "()I"⟩
abbrev wsX5_next : List Cond := .code yX5_next cX5_next 2 (some .int) :: WALL
abbrev cX5_makeCapture : ByteArray := prog_7_method_40_code
abbrev yX5_makeCapture : MethodName := ⟨"TextPatternsModel", "makeCapture", "(II)V"⟩
abbrev wsX5_makeCapture : List Cond := .code yX5_makeCapture cX5_makeCapture 3 none :: WALL
abbrev cX5_makeReplacement : ByteArray := prog_7_method_41_code
abbrev yX5_makeReplacement : MethodName := ⟨"TextPatternsModel", "makeReplacement", "(I)V"⟩
abbrev wsX5_makeReplacement : List Cond := .code yX5_makeReplacement cX5_makeReplacement 5 none :: WALL
abbrev cX5_replace : ByteArray := prog_7_method_42_code
abbrev yX5_replace : MethodName := ⟨"TextPatternsModel", "replace", "(I)I"⟩
abbrev wsX5_replace : List Cond := .code yX5_replace cX5_replace 8 (some .int) :: WALL
theorem w_38 : (.selects "TextPatternsModel" ⟨"TextPatternsModel", "isAnchored", "()Z"⟩ ⟨"TextPatternsModel", "isAnchored", "()Z"⟩ : Cond) ∈ WALL := kw (i := 38) (by decide +kernel) (by decide +kernel)
theorem w_41 : (.selects "TextPatternsModel" ⟨"TextPatternsModel", "search", "(IZI)I"⟩ ⟨"TextPatternsModel", "search", "(IZI)I"⟩ : Cond) ∈ WALL := kw (i := 41) (by decide +kernel) (by decide +kernel)
theorem w_42 : (.selects "TextPatternsModel" ⟨"TextPatternsModel", "matches", "(II)Z"⟩ ⟨"TextPatternsModel", "matches", "(II)Z"⟩ : Cond) ∈ WALL := kw (i := 42) (by decide +kernel) (by decide +kernel)
theorem w_43 : (.selects "TextPatternsModel" ⟨"TextPatternsModel", "tell", "(I)V"⟩ ⟨"TextPatternsModel", "tell", "(I)V"⟩ : Cond) ∈ WALL := kw (i := 43) (by decide +kernel) (by decide +kernel)
theorem w_44 : (.selects "TextPatternsModel" ⟨"TextPatternsModel", "lastOpen", "()I"⟩ ⟨"TextPatternsModel", "lastOpen", "()I"⟩ : Cond) ∈ WALL := kw (i := 44) (by decide +kernel) (by decide +kernel)
theorem w_45 : (.selects "TextPatternsModel" ⟨"TextPatternsModel", "come", "(II)I"⟩ ⟨"TextPatternsModel", "come", "(II)I"⟩ : Cond) ∈ WALL := kw (i := 45) (by decide +kernel) (by decide +kernel)
theorem w_46 : (.selects "TextPatternsModel" ⟨"TextPatternsModel", "opens", "(II)I"⟩ ⟨"TextPatternsModel", "opens", "(II)I"⟩ : Cond) ∈ WALL := kw (i := 46) (by decide +kernel) (by decide +kernel)
theorem w_49 : (.selects "TextPatternsModel" ⟨"TextPatternsModel", "closes", "(II)I"⟩ ⟨"TextPatternsModel", "closes", "(II)I"⟩ : Cond) ∈ WALL := kw (i := 49) (by decide +kernel) (by decide +kernel)
theorem w_50 : (.selects "TextPatternsModel" ⟨"TextPatternsModel", "balanced", "(II)I"⟩ ⟨"TextPatternsModel", "balanced", "(II)I"⟩ : Cond) ∈ WALL := kw (i := 50) (by decide +kernel) (by decide +kernel)
theorem w_52 : (.selects "TextPatternsModel" ⟨"TextPatternsModel", "border", "(II)I"⟩ ⟨"TextPatternsModel", "border", "(II)I"⟩ : Cond) ∈ WALL := kw (i := 52) (by decide +kernel) (by decide +kernel)
theorem w_55 : (.selects "TextPatternsModel" ⟨"TextPatternsModel", "again", "(III)I"⟩ ⟨"TextPatternsModel", "again", "(III)I"⟩ : Cond) ∈ WALL := kw (i := 55) (by decide +kernel) (by decide +kernel)
theorem w_56 : (.selects "TextPatternsModel" ⟨"TextPatternsModel", "single", "(II)I"⟩ ⟨"TextPatternsModel", "single", "(II)I"⟩ : Cond) ∈ WALL := kw (i := 56) (by decide +kernel) (by decide +kernel)
theorem w_58 : (.selects "TextPatternsModel" ⟨"TextPatternsModel", "isThere", "(II)Z"⟩ ⟨"TextPatternsModel", "isThere", "(II)Z"⟩ : Cond) ∈ WALL := kw (i := 58) (by decide +kernel) (by decide +kernel)
theorem w_60 : (.selects "TextPatternsModel" ⟨"TextPatternsModel", "back", "()I"⟩ ⟨"TextPatternsModel", "back", "()I"⟩ : Cond) ∈ WALL := kw (i := 60) (by decide +kernel) (by decide +kernel)
theorem w_61 : (.selects "TextPatternsModel" ⟨"TextPatternsModel", "change", "(I)I"⟩ ⟨"TextPatternsModel", "change", "(I)I"⟩ : Cond) ∈ WALL := kw (i := 61) (by decide +kernel) (by decide +kernel)
theorem w_62 : (.selects "TextPatternsModel" ⟨"TextPatternsModel", "makeReplacement", "(I)V"⟩ ⟨"TextPatternsModel", "makeReplacement", "(I)V"⟩ : Cond) ∈ WALL := kw (i := 62) (by decide +kernel) (by decide +kernel)
theorem w_64 : (.selects "TextPatternsModel" ⟨"TextPatternsModel", "makeCapture", "(II)V"⟩ ⟨"TextPatternsModel", "makeCapture", "(II)V"⟩ : Cond) ∈ WALL := kw (i := 64) (by decide +kernel) (by decide +kernel)
theorem w_65 : (.selects "TextPatternsModel" ⟨"TextPatternsModel", "makeAll", "(II)V"⟩ ⟨"TextPatternsModel", "makeAll", "(II)V"⟩ : Cond) ∈ WALL := kw (i := 65) (by decide +kernel) (by decide +kernel)
theorem w_66 : (.selects "TextPatternsModel" ⟨"TextPatternsModel", "makeNumber", "(I)V"⟩ ⟨"TextPatternsModel", "makeNumber", "(I)V"⟩ : Cond) ∈ WALL := kw (i := 66) (by decide +kernel) (by decide +kernel)
theorem w_612 : (.code ⟨"TextPatternsModel", "find", "(I)I"⟩ prog_7_method_34_code 2 (some .int) : Cond) ∈ WALL := kw (i := 612) (by decide +kernel) (by decide +kernel)
theorem w_613 : (.methodLink "TextPatternsModel" 164 ⟨"TextPatternsModel", "isAnchored", "()Z"⟩ : Cond) ∈ WALL := kw (i := 613) (by decide +kernel) (by decide +kernel)
theorem w_615 : (.instanceMethod ⟨"TextPatternsModel", "isAnchored", "()Z"⟩ : Cond) ∈ WALL := kw (i := 615) (by decide +kernel) (by decide +kernel)
theorem w_625 : (.methodLink "TextPatternsModel" 167 ⟨"TextPatternsModel", "search", "(IZI)I"⟩ : Cond) ∈ WALL := kw (i := 625) (by decide +kernel) (by decide +kernel)
theorem w_627 : (.instanceMethod ⟨"TextPatternsModel", "search", "(IZI)I"⟩ : Cond) ∈ WALL := kw (i := 627) (by decide +kernel) (by decide +kernel)
theorem w_628 : (.code ⟨"TextPatternsModel", "search", "(IZI)I"⟩ prog_7_method_33_code 5 (some .int) : Cond) ∈ WALL := kw (i := 628) (by decide +kernel) (by decide +kernel)
theorem w_629 : (.methodLink "TextPatternsModel" 161 ⟨"TextPatternsModel", "matches", "(II)Z"⟩ : Cond) ∈ WALL := kw (i := 629) (by decide +kernel) (by decide +kernel)
theorem w_631 : (.instanceMethod ⟨"TextPatternsModel", "matches", "(II)Z"⟩ : Cond) ∈ WALL := kw (i := 631) (by decide +kernel) (by decide +kernel)
theorem w_632 : (.code ⟨"TextPatternsModel", "matches", "(II)Z"⟩ prog_7_method_30_code 5 (some .boolean) : Cond) ∈ WALL := kw (i := 632) (by decide +kernel) (by decide +kernel)
theorem w_633 : (.methodLink "TextPatternsModel" 111 ⟨"TextPatternsModel", "tell", "(I)V"⟩ : Cond) ∈ WALL := kw (i := 633) (by decide +kernel) (by decide +kernel)
theorem w_635 : (.instanceMethod ⟨"TextPatternsModel", "tell", "(I)V"⟩ : Cond) ∈ WALL := kw (i := 635) (by decide +kernel) (by decide +kernel)
theorem w_636 : (.code ⟨"TextPatternsModel", "tell", "(I)V"⟩ prog_7_method_18_code 4 none : Cond) ∈ WALL := kw (i := 636) (by decide +kernel) (by decide +kernel)
theorem w_637 : (.methodLink "TextPatternsModel" 104 ⟨"TextPatternsModel", "lastOpen", "()I"⟩ : Cond) ∈ WALL := kw (i := 637) (by decide +kernel) (by decide +kernel)
theorem w_639 : (.instanceMethod ⟨"TextPatternsModel", "lastOpen", "()I"⟩ : Cond) ∈ WALL := kw (i := 639) (by decide +kernel) (by decide +kernel)
theorem w_641 : (.methodLink "TextPatternsModel" 149 ⟨"TextPatternsModel", "come", "(II)I"⟩ : Cond) ∈ WALL := kw (i := 641) (by decide +kernel) (by decide +kernel)
theorem w_643 : (.instanceMethod ⟨"TextPatternsModel", "come", "(II)I"⟩ : Cond) ∈ WALL := kw (i := 643) (by decide +kernel) (by decide +kernel)
theorem w_644 : (.code ⟨"TextPatternsModel", "come", "(II)I"⟩ prog_7_method_28_code 5 (some .int) : Cond) ∈ WALL := kw (i := 644) (by decide +kernel) (by decide +kernel)
theorem w_645 : (.methodLink "TextPatternsModel" 128 ⟨"TextPatternsModel", "opens", "(II)I"⟩ : Cond) ∈ WALL := kw (i := 645) (by decide +kernel) (by decide +kernel)
theorem w_647 : (.instanceMethod ⟨"TextPatternsModel", "opens", "(II)I"⟩ : Cond) ∈ WALL := kw (i := 647) (by decide +kernel) (by decide +kernel)
theorem w_648 : (.code ⟨"TextPatternsModel", "opens", "(II)I"⟩ prog_7_method_22_code 3 (some .int) : Cond) ∈ WALL := kw (i := 648) (by decide +kernel) (by decide +kernel)
theorem w_657 : (.methodLink "TextPatternsModel" 131 ⟨"TextPatternsModel", "closes", "(II)I"⟩ : Cond) ∈ WALL := kw (i := 657) (by decide +kernel) (by decide +kernel)
theorem w_659 : (.instanceMethod ⟨"TextPatternsModel", "closes", "(II)I"⟩ : Cond) ∈ WALL := kw (i := 659) (by decide +kernel) (by decide +kernel)
theorem w_660 : (.code ⟨"TextPatternsModel", "closes", "(II)I"⟩ prog_7_method_23_code 3 (some .int) : Cond) ∈ WALL := kw (i := 660) (by decide +kernel) (by decide +kernel)
theorem w_661 : (.methodLink "TextPatternsModel" 134 ⟨"TextPatternsModel", "balanced", "(II)I"⟩ : Cond) ∈ WALL := kw (i := 661) (by decide +kernel) (by decide +kernel)
theorem w_663 : (.instanceMethod ⟨"TextPatternsModel", "balanced", "(II)I"⟩ : Cond) ∈ WALL := kw (i := 663) (by decide +kernel) (by decide +kernel)
theorem w_670 : (.methodLink "TextPatternsModel" 137 ⟨"TextPatternsModel", "border", "(II)I"⟩ : Cond) ∈ WALL := kw (i := 670) (by decide +kernel) (by decide +kernel)
theorem w_672 : (.instanceMethod ⟨"TextPatternsModel", "border", "(II)I"⟩ : Cond) ∈ WALL := kw (i := 672) (by decide +kernel) (by decide +kernel)
theorem w_694 : (.methodLink "TextPatternsModel" 140 ⟨"TextPatternsModel", "again", "(III)I"⟩ : Cond) ∈ WALL := kw (i := 694) (by decide +kernel) (by decide +kernel)
theorem w_696 : (.instanceMethod ⟨"TextPatternsModel", "again", "(III)I"⟩ : Cond) ∈ WALL := kw (i := 696) (by decide +kernel) (by decide +kernel)
theorem w_697 : (.code ⟨"TextPatternsModel", "again", "(III)I"⟩ prog_7_method_24_code 7 (some .int) : Cond) ∈ WALL := kw (i := 697) (by decide +kernel) (by decide +kernel)
theorem w_698 : (.methodLink "TextPatternsModel" 143 ⟨"TextPatternsModel", "single", "(II)I"⟩ : Cond) ∈ WALL := kw (i := 698) (by decide +kernel) (by decide +kernel)
theorem w_700 : (.instanceMethod ⟨"TextPatternsModel", "single", "(II)I"⟩ : Cond) ∈ WALL := kw (i := 700) (by decide +kernel) (by decide +kernel)
theorem w_701 : (.code ⟨"TextPatternsModel", "single", "(II)I"⟩ prog_7_method_27_code 6 (some .int) : Cond) ∈ WALL := kw (i := 701) (by decide +kernel) (by decide +kernel)
theorem w_706 : (.methodLink "TextPatternsModel" 125 ⟨"TextPatternsModel", "isThere", "(II)Z"⟩ : Cond) ∈ WALL := kw (i := 706) (by decide +kernel) (by decide +kernel)
theorem w_708 : (.instanceMethod ⟨"TextPatternsModel", "isThere", "(II)Z"⟩ : Cond) ∈ WALL := kw (i := 708) (by decide +kernel) (by decide +kernel)
theorem w_714 : (.methodLink "TextPatternsModel" 152 ⟨"TextPatternsModel", "back", "()I"⟩ : Cond) ∈ WALL := kw (i := 714) (by decide +kernel) (by decide +kernel)
theorem w_716 : (.instanceMethod ⟨"TextPatternsModel", "back", "()I"⟩ : Cond) ∈ WALL := kw (i := 716) (by decide +kernel) (by decide +kernel)
theorem w_717 : (.code ⟨"TextPatternsModel", "back", "()I"⟩ prog_7_method_31_code 2 (some .int) : Cond) ∈ WALL := kw (i := 717) (by decide +kernel) (by decide +kernel)
theorem w_718 : (.methodLink "TextPatternsModel" 155 ⟨"TextPatternsModel", "change", "(I)I"⟩ : Cond) ∈ WALL := kw (i := 718) (by decide +kernel) (by decide +kernel)
theorem w_720 : (.instanceMethod ⟨"TextPatternsModel", "change", "(I)I"⟩ : Cond) ∈ WALL := kw (i := 720) (by decide +kernel) (by decide +kernel)
theorem w_721 : (.code ⟨"TextPatternsModel", "change", "(I)I"⟩ prog_7_method_29_code 2 (some .int) : Cond) ∈ WALL := kw (i := 721) (by decide +kernel) (by decide +kernel)
theorem w_729 : (.code ⟨"TextPatternsModel", "next", "()I"⟩ prog_7_method_36_code 2 (some .int) : Cond) ∈ WALL := kw (i := 729) (by decide +kernel) (by decide +kernel)
theorem w_733 : (.code ⟨"TextPatternsModel", "replace", "(I)I"⟩ prog_7_method_42_code 8 (some .int) : Cond) ∈ WALL := kw (i := 733) (by decide +kernel) (by decide +kernel)
theorem w_734 : (.methodLink "TextPatternsModel" 190 ⟨"TextPatternsModel", "makeReplacement", "(I)V"⟩ : Cond) ∈ WALL := kw (i := 734) (by decide +kernel) (by decide +kernel)
theorem w_736 : (.instanceMethod ⟨"TextPatternsModel", "makeReplacement", "(I)V"⟩ : Cond) ∈ WALL := kw (i := 736) (by decide +kernel) (by decide +kernel)
theorem w_737 : (.code ⟨"TextPatternsModel", "makeReplacement", "(I)V"⟩ prog_7_method_41_code 5 none : Cond) ∈ WALL := kw (i := 737) (by decide +kernel) (by decide +kernel)
theorem w_742 : (.methodLink "TextPatternsModel" 187 ⟨"TextPatternsModel", "makeCapture", "(II)V"⟩ : Cond) ∈ WALL := kw (i := 742) (by decide +kernel) (by decide +kernel)
theorem w_744 : (.instanceMethod ⟨"TextPatternsModel", "makeCapture", "(II)V"⟩ : Cond) ∈ WALL := kw (i := 744) (by decide +kernel) (by decide +kernel)
theorem w_745 : (.code ⟨"TextPatternsModel", "makeCapture", "(II)V"⟩ prog_7_method_40_code 3 none : Cond) ∈ WALL := kw (i := 745) (by decide +kernel) (by decide +kernel)
theorem w_746 : (.methodLink "TextPatternsModel" 180 ⟨"TextPatternsModel", "makeAll", "(II)V"⟩ : Cond) ∈ WALL := kw (i := 746) (by decide +kernel) (by decide +kernel)
theorem w_748 : (.instanceMethod ⟨"TextPatternsModel", "makeAll", "(II)V"⟩ : Cond) ∈ WALL := kw (i := 748) (by decide +kernel) (by decide +kernel)
theorem w_750 : (.methodLink "TextPatternsModel" 184 ⟨"TextPatternsModel", "makeNumber", "(I)V"⟩ : Cond) ∈ WALL := kw (i := 750) (by decide +kernel) (by decide +kernel)
theorem w_752 : (.instanceMethod ⟨"TextPatternsModel", "makeNumber", "(I)V"⟩ : Cond) ∈ WALL := kw (i := 752) (by decide +kernel) (by decide +kernel)
theorem dX5_tell_0 : decode cX5_tell 0 = .ok (.aload_n 0, 1) := by decide +kernel
theorem dX5_tell_1 : decode cX5_tell 1 = .ok (.iconst 0, 1) := by decide +kernel
theorem dX5_tell_2 : decode cX5_tell 2 = .ok (.putfield 101, 3) := by decide +kernel
theorem dX5_tell_5 : decode cX5_tell 5 = .ok (.iconst 0, 1) := by decide +kernel
theorem dX5_tell_6 : decode cX5_tell 6 = .ok (.istore_n 2, 1) := by decide +kernel
theorem dX5_tell_7 : decode cX5_tell 7 = .ok (.iload_n 2, 1) := by decide +kernel
theorem dX5_tell_8 : decode cX5_tell 8 = .ok (.iload_n 1, 1) := by decide +kernel
theorem dX5_tell_9 : decode cX5_tell 9 = .ok (.if_icmp .ge 114, 3) := by decide +kernel
theorem dX5_tell_12 : decode cX5_tell 12 = .ok (.aload_n 0, 1) := by decide +kernel
theorem dX5_tell_13 : decode cX5_tell 13 = .ok (.getfield 26, 3) := by decide +kernel
theorem dX5_tell_16 : decode cX5_tell 16 = .ok (.iload_n 2, 1) := by decide +kernel
theorem dX5_tell_17 : decode cX5_tell 17 = .ok (.iaload, 1) := by decide +kernel
theorem dX5_tell_18 : decode cX5_tell 18 = .ok (.iconst 4, 1) := by decide +kernel
theorem dX5_tell_19 : decode cX5_tell 19 = .ok (.if_icmp .eq 13, 3) := by decide +kernel
theorem dX5_tell_22 : decode cX5_tell 22 = .ok (.aload_n 0, 1) := by decide +kernel
theorem dX5_tell_23 : decode cX5_tell 23 = .ok (.getfield 26, 3) := by decide +kernel
theorem dX5_tell_26 : decode cX5_tell 26 = .ok (.iload_n 2, 1) := by decide +kernel
theorem dX5_tell_27 : decode cX5_tell 27 = .ok (.iaload, 1) := by decide +kernel
theorem dX5_tell_28 : decode cX5_tell 28 = .ok (.iconst 5, 1) := by decide +kernel
theorem dX5_tell_29 : decode cX5_tell 29 = .ok (.if_icmp .ne 53, 3) := by decide +kernel
theorem dX5_tell_32 : decode cX5_tell 32 = .ok (.aload_n 0, 1) := by decide +kernel
theorem dX5_tell_33 : decode cX5_tell 33 = .ok (.getfield 38, 3) := by decide +kernel
theorem dX5_tell_36 : decode cX5_tell 36 = .ok (.aload_n 0, 1) := by decide +kernel
theorem dX5_tell_37 : decode cX5_tell 37 = .ok (.getfield 101, 3) := by decide +kernel
theorem dX5_tell_40 : decode cX5_tell 40 = .ok (.aload_n 0, 1) := by decide +kernel
theorem dX5_tell_41 : decode cX5_tell 41 = .ok (.getfield 23, 3) := by decide +kernel
theorem dX5_tell_44 : decode cX5_tell 44 = .ok (.iload_n 2, 1) := by decide +kernel
theorem dX5_tell_45 : decode cX5_tell 45 = .ok (.iaload, 1) := by decide +kernel
theorem dX5_tell_46 : decode cX5_tell 46 = .ok (.iastore, 1) := by decide +kernel
theorem dX5_tell_47 : decode cX5_tell 47 = .ok (.aload_n 0, 1) := by decide +kernel
theorem dX5_tell_48 : decode cX5_tell 48 = .ok (.getfield 41, 3) := by decide +kernel
theorem dX5_tell_51 : decode cX5_tell 51 = .ok (.aload_n 0, 1) := by decide +kernel
theorem dX5_tell_52 : decode cX5_tell 52 = .ok (.getfield 101, 3) := by decide +kernel
theorem dX5_tell_55 : decode cX5_tell 55 = .ok (.aload_n 0, 1) := by decide +kernel
theorem dX5_tell_56 : decode cX5_tell 56 = .ok (.getfield 26, 3) := by decide +kernel
theorem dX5_tell_59 : decode cX5_tell 59 = .ok (.iload_n 2, 1) := by decide +kernel
theorem dX5_tell_60 : decode cX5_tell 60 = .ok (.iaload, 1) := by decide +kernel
theorem dX5_tell_61 : decode cX5_tell 61 = .ok (.iconst 5, 1) := by decide +kernel
theorem dX5_tell_62 : decode cX5_tell 62 = .ok (.if_icmp .ne 7, 3) := by decide +kernel
theorem dX5_tell_65 : decode cX5_tell 65 = .ok (.iconst (-1), 1) := by decide +kernel
theorem dX5_tell_66 : decode cX5_tell 66 = .ok (.goto 5, 3) := by decide +kernel
theorem dX5_tell_69 : decode cX5_tell 69 = .ok (.bipush (-2), 2) := by decide +kernel
theorem dX5_tell_71 : decode cX5_tell 71 = .ok (.iastore, 1) := by decide +kernel
theorem dX5_tell_72 : decode cX5_tell 72 = .ok (.aload_n 0, 1) := by decide +kernel
theorem dX5_tell_73 : decode cX5_tell 73 = .ok (.dup, 1) := by decide +kernel
theorem dX5_tell_74 : decode cX5_tell 74 = .ok (.getfield 101, 3) := by decide +kernel
theorem dX5_tell_77 : decode cX5_tell 77 = .ok (.iconst 1, 1) := by decide +kernel
theorem dX5_tell_78 : decode cX5_tell 78 = .ok (.iadd, 1) := by decide +kernel
theorem dX5_tell_79 : decode cX5_tell 79 = .ok (.putfield 101, 3) := by decide +kernel
theorem dX5_tell_82 : decode cX5_tell 82 = .ok (.aload_n 0, 1) := by decide +kernel
theorem dX5_tell_83 : decode cX5_tell 83 = .ok (.getfield 26, 3) := by decide +kernel
theorem dX5_tell_86 : decode cX5_tell 86 = .ok (.iload_n 2, 1) := by decide +kernel
theorem dX5_tell_87 : decode cX5_tell 87 = .ok (.iaload, 1) := by decide +kernel
theorem dX5_tell_88 : decode cX5_tell 88 = .ok (.bipush 6, 2) := by decide +kernel
theorem dX5_tell_90 : decode cX5_tell 90 = .ok (.if_icmp .ne 27, 3) := by decide +kernel
theorem dX5_tell_93 : decode cX5_tell 93 = .ok (.aload_n 0, 1) := by decide +kernel
theorem dX5_tell_94 : decode cX5_tell 94 = .ok (.invokevirtual 104, 3) := by decide +kernel
theorem dX5_tell_97 : decode cX5_tell 97 = .ok (.istore_n 3, 1) := by decide +kernel
theorem dX5_tell_98 : decode cX5_tell 98 = .ok (.aload_n 0, 1) := by decide +kernel
theorem dX5_tell_99 : decode cX5_tell 99 = .ok (.getfield 41, 3) := by decide +kernel
theorem dX5_tell_102 : decode cX5_tell 102 = .ok (.iload_n 3, 1) := by decide +kernel
theorem dX5_tell_103 : decode cX5_tell 103 = .ok (.aload_n 0, 1) := by decide +kernel
theorem dX5_tell_104 : decode cX5_tell 104 = .ok (.getfield 23, 3) := by decide +kernel
theorem dX5_tell_107 : decode cX5_tell 107 = .ok (.iload_n 2, 1) := by decide +kernel
theorem dX5_tell_108 : decode cX5_tell 108 = .ok (.iaload, 1) := by decide +kernel
theorem dX5_tell_109 : decode cX5_tell 109 = .ok (.aload_n 0, 1) := by decide +kernel
theorem dX5_tell_110 : decode cX5_tell 110 = .ok (.getfield 38, 3) := by decide +kernel
theorem dX5_tell_113 : decode cX5_tell 113 = .ok (.iload_n 3, 1) := by decide +kernel
theorem dX5_tell_114 : decode cX5_tell 114 = .ok (.iaload, 1) := by decide +kernel
theorem dX5_tell_115 : decode cX5_tell 115 = .ok (.isub, 1) := by decide +kernel
theorem dX5_tell_116 : decode cX5_tell 116 = .ok (.iastore, 1) := by decide +kernel
theorem dX5_tell_117 : decode cX5_tell 117 = .ok (.iinc 2 1, 3) := by decide +kernel
theorem dX5_tell_120 : decode cX5_tell 120 = .ok (.goto (-113), 3) := by decide +kernel
theorem dX5_tell_123 : decode cX5_tell 123 = .ok (.return_, 1) := by decide +kernel
theorem dX5_opens_0 : decode cX5_opens 0 = .ok (.aload_n 0, 1) := by decide +kernel
theorem dX5_opens_1 : decode cX5_opens 1 = .ok (.aload_n 0, 1) := by decide +kernel
theorem dX5_opens_2 : decode cX5_opens 2 = .ok (.getfield 108, 3) := by decide +kernel
theorem dX5_opens_5 : decode cX5_opens 5 = .ok (.invokevirtual 111, 3) := by decide +kernel
theorem dX5_opens_8 : decode cX5_opens 8 = .ok (.aload_n 0, 1) := by decide +kernel
theorem dX5_opens_9 : decode cX5_opens 9 = .ok (.getfield 101, 3) := by decide +kernel
theorem dX5_opens_12 : decode cX5_opens 12 = .ok (.bipush 32, 2) := by decide +kernel
theorem dX5_opens_14 : decode cX5_opens 14 = .ok (.if_icmp .ne 8, 3) := by decide +kernel
theorem dX5_opens_17 : decode cX5_opens 17 = .ok (.aload_n 0, 1) := by decide +kernel
theorem dX5_opens_18 : decode cX5_opens 18 = .ok (.invokevirtual 115, 3) := by decide +kernel
theorem dX5_opens_21 : decode cX5_opens 21 = .ok (.ireturn, 1) := by decide +kernel
theorem dX5_opens_22 : decode cX5_opens 22 = .ok (.aload_n 0, 1) := by decide +kernel
theorem dX5_opens_23 : decode cX5_opens 23 = .ok (.iload_n 1, 1) := by decide +kernel
theorem dX5_opens_24 : decode cX5_opens 24 = .ok (.iconst 1, 1) := by decide +kernel
theorem dX5_opens_25 : decode cX5_opens 25 = .ok (.iadd, 1) := by decide +kernel
theorem dX5_opens_26 : decode cX5_opens 26 = .ok (.invokevirtual 74, 3) := by decide +kernel
theorem dX5_opens_29 : decode cX5_opens 29 = .ok (.bipush 41, 2) := by decide +kernel
theorem dX5_opens_31 : decode cX5_opens 31 = .ok (.if_icmp .ne 15, 3) := by decide +kernel
theorem dX5_opens_34 : decode cX5_opens 34 = .ok (.aload_n 0, 1) := by decide +kernel
theorem dX5_opens_35 : decode cX5_opens 35 = .ok (.iconst 5, 1) := by decide +kernel
theorem dX5_opens_36 : decode cX5_opens 36 = .ok (.iload_n 1, 1) := by decide +kernel
theorem dX5_opens_37 : decode cX5_opens 37 = .ok (.iconst 2, 1) := by decide +kernel
theorem dX5_opens_38 : decode cX5_opens 38 = .ok (.iadd, 1) := by decide +kernel
theorem dX5_opens_39 : decode cX5_opens 39 = .ok (.iload_n 2, 1) := by decide +kernel
theorem dX5_opens_40 : decode cX5_opens 40 = .ok (.invokevirtual 118, 3) := by decide +kernel
theorem dX5_opens_43 : decode cX5_opens 43 = .ok (.goto 12, 3) := by decide +kernel
theorem dX5_opens_46 : decode cX5_opens 46 = .ok (.aload_n 0, 1) := by decide +kernel
theorem dX5_opens_47 : decode cX5_opens 47 = .ok (.iconst 4, 1) := by decide +kernel
theorem dX5_opens_48 : decode cX5_opens 48 = .ok (.iload_n 1, 1) := by decide +kernel
theorem dX5_opens_49 : decode cX5_opens 49 = .ok (.iconst 1, 1) := by decide +kernel
theorem dX5_opens_50 : decode cX5_opens 50 = .ok (.iadd, 1) := by decide +kernel
theorem dX5_opens_51 : decode cX5_opens 51 = .ok (.iload_n 2, 1) := by decide +kernel
theorem dX5_opens_52 : decode cX5_opens 52 = .ok (.invokevirtual 118, 3) := by decide +kernel
theorem dX5_opens_55 : decode cX5_opens 55 = .ok (.ireturn, 1) := by decide +kernel
theorem dX5_closes_0 : decode cX5_closes 0 = .ok (.aload_n 0, 1) := by decide +kernel
theorem dX5_closes_1 : decode cX5_closes 1 = .ok (.aload_n 0, 1) := by decide +kernel
theorem dX5_closes_2 : decode cX5_closes 2 = .ok (.getfield 108, 3) := by decide +kernel
theorem dX5_closes_5 : decode cX5_closes 5 = .ok (.invokevirtual 111, 3) := by decide +kernel
theorem dX5_closes_8 : decode cX5_closes 8 = .ok (.aload_n 0, 1) := by decide +kernel
theorem dX5_closes_9 : decode cX5_closes 9 = .ok (.invokevirtual 104, 3) := by decide +kernel
theorem dX5_closes_12 : decode cX5_closes 12 = .ok (.ifCond .ge 10, 3) := by decide +kernel
theorem dX5_closes_15 : decode cX5_closes 15 = .ok (.aload_n 0, 1) := by decide +kernel
theorem dX5_closes_16 : decode cX5_closes 16 = .ok (.invokevirtual 115, 3) := by decide +kernel
theorem dX5_closes_19 : decode cX5_closes 19 = .ok (.goto 13, 3) := by decide +kernel
theorem dX5_closes_22 : decode cX5_closes 22 = .ok (.aload_n 0, 1) := by decide +kernel
theorem dX5_closes_23 : decode cX5_closes 23 = .ok (.bipush 6, 2) := by decide +kernel
theorem dX5_closes_25 : decode cX5_closes 25 = .ok (.iload_n 1, 1) := by decide +kernel
theorem dX5_closes_26 : decode cX5_closes 26 = .ok (.iconst 1, 1) := by decide +kernel
theorem dX5_closes_27 : decode cX5_closes 27 = .ok (.iadd, 1) := by decide +kernel
theorem dX5_closes_28 : decode cX5_closes 28 = .ok (.iload_n 2, 1) := by decide +kernel
theorem dX5_closes_29 : decode cX5_closes 29 = .ok (.invokevirtual 118, 3) := by decide +kernel
theorem dX5_closes_32 : decode cX5_closes 32 = .ok (.ireturn, 1) := by decide +kernel
theorem dX5_again_0 : decode cX5_again 0 = .ok (.aload_n 0, 1) := by decide +kernel
theorem dX5_again_1 : decode cX5_again 1 = .ok (.aload_n 0, 1) := by decide +kernel
theorem dX5_again_2 : decode cX5_again 2 = .ok (.getfield 108, 3) := by decide +kernel
theorem dX5_again_5 : decode cX5_again 5 = .ok (.invokevirtual 111, 3) := by decide +kernel
theorem dX5_again_8 : decode cX5_again 8 = .ok (.iload_n 1, 1) := by decide +kernel
theorem dX5_again_9 : decode cX5_again 9 = .ok (.aload_n 0, 1) := by decide +kernel
theorem dX5_again_10 : decode cX5_again 10 = .ok (.getfield 101, 3) := by decide +kernel
theorem dX5_again_13 : decode cX5_again 13 = .ok (.if_icmp .ge 12, 3) := by decide +kernel
theorem dX5_again_16 : decode cX5_again 16 = .ok (.aload_n 0, 1) := by decide +kernel
theorem dX5_again_17 : decode cX5_again 17 = .ok (.getfield 41, 3) := by decide +kernel
theorem dX5_again_20 : decode cX5_again 20 = .ok (.iload_n 1, 1) := by decide +kernel
theorem dX5_again_21 : decode cX5_again 21 = .ok (.iaload, 1) := by decide +kernel
theorem dX5_again_22 : decode cX5_again 22 = .ok (.ifCond .ge 8, 3) := by decide +kernel
theorem dX5_again_25 : decode cX5_again 25 = .ok (.aload_n 0, 1) := by decide +kernel
theorem dX5_again_26 : decode cX5_again 26 = .ok (.invokevirtual 115, 3) := by decide +kernel
theorem dX5_again_29 : decode cX5_again 29 = .ok (.ireturn, 1) := by decide +kernel
theorem dX5_again_30 : decode cX5_again 30 = .ok (.aload_n 0, 1) := by decide +kernel
theorem dX5_again_31 : decode cX5_again 31 = .ok (.getfield 41, 3) := by decide +kernel
theorem dX5_again_34 : decode cX5_again 34 = .ok (.iload_n 1, 1) := by decide +kernel
theorem dX5_again_35 : decode cX5_again 35 = .ok (.iaload, 1) := by decide +kernel
theorem dX5_again_36 : decode cX5_again 36 = .ok (.istore 4, 2) := by decide +kernel
theorem dX5_again_38 : decode cX5_again 38 = .ok (.iload_n 3, 1) := by decide +kernel
theorem dX5_again_39 : decode cX5_again 39 = .ok (.iload 4, 2) := by decide +kernel
theorem dX5_again_41 : decode cX5_again 41 = .ok (.iadd, 1) := by decide +kernel
theorem dX5_again_42 : decode cX5_again 42 = .ok (.aload_n 0, 1) := by decide +kernel
theorem dX5_again_43 : decode cX5_again 43 = .ok (.getfield 13, 3) := by decide +kernel
theorem dX5_again_46 : decode cX5_again 46 = .ok (.iconst 0, 1) := by decide +kernel
theorem dX5_again_47 : decode cX5_again 47 = .ok (.iaload, 1) := by decide +kernel
theorem dX5_again_48 : decode cX5_again 48 = .ok (.if_icmp .gt 7, 3) := by decide +kernel
theorem dX5_again_51 : decode cX5_again 51 = .ok (.iconst 1, 1) := by decide +kernel
theorem dX5_again_52 : decode cX5_again 52 = .ok (.goto 4, 3) := by decide +kernel
theorem dX5_again_55 : decode cX5_again 55 = .ok (.iconst 0, 1) := by decide +kernel
theorem dX5_again_56 : decode cX5_again 56 = .ok (.istore 5, 2) := by decide +kernel
theorem dX5_again_58 : decode cX5_again 58 = .ok (.iconst 0, 1) := by decide +kernel
theorem dX5_again_59 : decode cX5_again 59 = .ok (.istore 6, 2) := by decide +kernel
theorem dX5_again_61 : decode cX5_again 61 = .ok (.iload 6, 2) := by decide +kernel
theorem dX5_again_63 : decode cX5_again 63 = .ok (.iload 4, 2) := by decide +kernel
theorem dX5_again_65 : decode cX5_again 65 = .ok (.if_icmp .ge 54, 3) := by decide +kernel
theorem dX5_again_68 : decode cX5_again 68 = .ok (.iload 5, 2) := by decide +kernel
theorem dX5_again_70 : decode cX5_again 70 = .ok (.ifCond .eq 49, 3) := by decide +kernel
theorem dX5_again_73 : decode cX5_again 73 = .ok (.aload_n 0, 1) := by decide +kernel
theorem dX5_again_74 : decode cX5_again 74 = .ok (.invokevirtual 94, 3) := by decide +kernel
theorem dX5_again_77 : decode cX5_again 77 = .ok (.ifCond .eq 33, 3) := by decide +kernel
theorem dX5_again_80 : decode cX5_again 80 = .ok (.aload_n 0, 1) := by decide +kernel
theorem dX5_again_81 : decode cX5_again 81 = .ok (.iconst 0, 1) := by decide +kernel
theorem dX5_again_82 : decode cX5_again 82 = .ok (.aload_n 0, 1) := by decide +kernel
theorem dX5_again_83 : decode cX5_again 83 = .ok (.getfield 38, 3) := by decide +kernel
theorem dX5_again_86 : decode cX5_again 86 = .ok (.iload_n 1, 1) := by decide +kernel
theorem dX5_again_87 : decode cX5_again 87 = .ok (.iaload, 1) := by decide +kernel
theorem dX5_again_88 : decode cX5_again 88 = .ok (.iload 6, 2) := by decide +kernel
theorem dX5_again_90 : decode cX5_again 90 = .ok (.iadd, 1) := by decide +kernel
theorem dX5_again_91 : decode cX5_again 91 = .ok (.invokevirtual 59, 3) := by decide +kernel
theorem dX5_again_94 : decode cX5_again 94 = .ok (.aload_n 0, 1) := by decide +kernel
theorem dX5_again_95 : decode cX5_again 95 = .ok (.iconst 0, 1) := by decide +kernel
theorem dX5_again_96 : decode cX5_again 96 = .ok (.iload_n 3, 1) := by decide +kernel
theorem dX5_again_97 : decode cX5_again 97 = .ok (.iload 6, 2) := by decide +kernel
theorem dX5_again_99 : decode cX5_again 99 = .ok (.iadd, 1) := by decide +kernel
theorem dX5_again_100 : decode cX5_again 100 = .ok (.invokevirtual 59, 3) := by decide +kernel
theorem dX5_again_103 : decode cX5_again 103 = .ok (.if_icmp .ne 7, 3) := by decide +kernel
theorem dX5_again_106 : decode cX5_again 106 = .ok (.iconst 1, 1) := by decide +kernel
theorem dX5_again_107 : decode cX5_again 107 = .ok (.goto 4, 3) := by decide +kernel
theorem dX5_again_110 : decode cX5_again 110 = .ok (.iconst 0, 1) := by decide +kernel
theorem dX5_again_111 : decode cX5_again 111 = .ok (.istore 5, 2) := by decide +kernel
theorem dX5_again_113 : decode cX5_again 113 = .ok (.iinc 6 1, 3) := by decide +kernel
theorem dX5_again_116 : decode cX5_again 116 = .ok (.goto (-55), 3) := by decide +kernel
theorem dX5_again_119 : decode cX5_again 119 = .ok (.iload 5, 2) := by decide +kernel
theorem dX5_again_121 : decode cX5_again 121 = .ok (.ifCond .eq 19, 3) := by decide +kernel
theorem dX5_again_124 : decode cX5_again 124 = .ok (.aload_n 0, 1) := by decide +kernel
theorem dX5_again_125 : decode cX5_again 125 = .ok (.bipush 7, 2) := by decide +kernel
theorem dX5_again_127 : decode cX5_again 127 = .ok (.iload_n 2, 1) := by decide +kernel
theorem dX5_again_128 : decode cX5_again 128 = .ok (.iconst 2, 1) := by decide +kernel
theorem dX5_again_129 : decode cX5_again 129 = .ok (.iadd, 1) := by decide +kernel
theorem dX5_again_130 : decode cX5_again 130 = .ok (.iload_n 3, 1) := by decide +kernel
theorem dX5_again_131 : decode cX5_again 131 = .ok (.iload 4, 2) := by decide +kernel
theorem dX5_again_133 : decode cX5_again 133 = .ok (.iadd, 1) := by decide +kernel
theorem dX5_again_134 : decode cX5_again 134 = .ok (.invokevirtual 118, 3) := by decide +kernel
theorem dX5_again_137 : decode cX5_again 137 = .ok (.goto 4, 3) := by decide +kernel
theorem dX5_again_140 : decode cX5_again 140 = .ok (.iconst (-1), 1) := by decide +kernel
theorem dX5_again_141 : decode cX5_again 141 = .ok (.ireturn, 1) := by decide +kernel
theorem dX5_single_0 : decode cX5_single 0 = .ok (.aload_n 0, 1) := by decide +kernel
theorem dX5_single_1 : decode cX5_single 1 = .ok (.iload_n 1, 1) := by decide +kernel
theorem dX5_single_2 : decode cX5_single 2 = .ok (.invokevirtual 122, 3) := by decide +kernel
theorem dX5_single_5 : decode cX5_single 5 = .ok (.istore_n 3, 1) := by decide +kernel
theorem dX5_single_6 : decode cX5_single 6 = .ok (.iload_n 3, 1) := by decide +kernel
theorem dX5_single_7 : decode cX5_single 7 = .ok (.ifCond .ge 8, 3) := by decide +kernel
theorem dX5_single_10 : decode cX5_single 10 = .ok (.aload_n 0, 1) := by decide +kernel
theorem dX5_single_11 : decode cX5_single 11 = .ok (.invokevirtual 115, 3) := by decide +kernel
theorem dX5_single_14 : decode cX5_single 14 = .ok (.ireturn, 1) := by decide +kernel
theorem dX5_single_15 : decode cX5_single 15 = .ok (.aload_n 0, 1) := by decide +kernel
theorem dX5_single_16 : decode cX5_single 16 = .ok (.iload_n 3, 1) := by decide +kernel
theorem dX5_single_17 : decode cX5_single 17 = .ok (.invokevirtual 74, 3) := by decide +kernel
theorem dX5_single_20 : decode cX5_single 20 = .ok (.istore 4, 2) := by decide +kernel
theorem dX5_single_22 : decode cX5_single 22 = .ok (.aload_n 0, 1) := by decide +kernel
theorem dX5_single_23 : decode cX5_single 23 = .ok (.getfield 32, 3) := by decide +kernel
theorem dX5_single_26 : decode cX5_single 26 = .ok (.aload_n 0, 1) := by decide +kernel
theorem dX5_single_27 : decode cX5_single 27 = .ok (.getfield 108, 3) := by decide +kernel
theorem dX5_single_30 : decode cX5_single 30 = .ok (.iconst 0, 1) := by decide +kernel
theorem dX5_single_31 : decode cX5_single 31 = .ok (.iastore, 1) := by decide +kernel
theorem dX5_single_32 : decode cX5_single 32 = .ok (.aload_n 0, 1) := by decide +kernel
theorem dX5_single_33 : decode cX5_single 33 = .ok (.getfield 35, 3) := by decide +kernel
theorem dX5_single_36 : decode cX5_single 36 = .ok (.aload_n 0, 1) := by decide +kernel
theorem dX5_single_37 : decode cX5_single 37 = .ok (.getfield 108, 3) := by decide +kernel
theorem dX5_single_40 : decode cX5_single 40 = .ok (.iload 4, 2) := by decide +kernel
theorem dX5_single_42 : decode cX5_single 42 = .ok (.bipush 43, 2) := by decide +kernel
theorem dX5_single_44 : decode cX5_single 44 = .ok (.if_icmp .ne 7, 3) := by decide +kernel
theorem dX5_single_47 : decode cX5_single 47 = .ok (.iconst 1, 1) := by decide +kernel
theorem dX5_single_48 : decode cX5_single 48 = .ok (.goto 4, 3) := by decide +kernel
theorem dX5_single_51 : decode cX5_single 51 = .ok (.iconst 0, 1) := by decide +kernel
theorem dX5_single_52 : decode cX5_single 52 = .ok (.iastore, 1) := by decide +kernel
theorem dX5_single_53 : decode cX5_single 53 = .ok (.iload 4, 2) := by decide +kernel
theorem dX5_single_55 : decode cX5_single 55 = .ok (.bipush 42, 2) := by decide +kernel
theorem dX5_single_57 : decode cX5_single 57 = .ok (.if_icmp .eq 10, 3) := by decide +kernel
theorem dX5_single_60 : decode cX5_single 60 = .ok (.iload 4, 2) := by decide +kernel
theorem dX5_single_62 : decode cX5_single 62 = .ok (.bipush 43, 2) := by decide +kernel
theorem dX5_single_64 : decode cX5_single 64 = .ok (.if_icmp .ne 73, 3) := by decide +kernel
theorem dX5_single_67 : decode cX5_single 67 = .ok (.iconst 0, 1) := by decide +kernel
theorem dX5_single_68 : decode cX5_single 68 = .ok (.istore 5, 2) := by decide +kernel
theorem dX5_single_70 : decode cX5_single 70 = .ok (.aload_n 0, 1) := by decide +kernel
theorem dX5_single_71 : decode cX5_single 71 = .ok (.iload_n 1, 1) := by decide +kernel
theorem dX5_single_72 : decode cX5_single 72 = .ok (.iload_n 2, 1) := by decide +kernel
theorem dX5_single_73 : decode cX5_single 73 = .ok (.iload 5, 2) := by decide +kernel
theorem dX5_single_75 : decode cX5_single 75 = .ok (.iadd, 1) := by decide +kernel
theorem dX5_single_76 : decode cX5_single 76 = .ok (.invokevirtual 125, 3) := by decide +kernel
theorem dX5_single_79 : decode cX5_single 79 = .ok (.ifCond .eq 9, 3) := by decide +kernel
theorem dX5_single_82 : decode cX5_single 82 = .ok (.iinc 5 1, 3) := by decide +kernel
theorem dX5_single_85 : decode cX5_single 85 = .ok (.goto (-15), 3) := by decide +kernel
theorem dX5_single_88 : decode cX5_single 88 = .ok (.aload_n 0, 1) := by decide +kernel
theorem dX5_single_89 : decode cX5_single 89 = .ok (.getfield 32, 3) := by decide +kernel
theorem dX5_single_92 : decode cX5_single 92 = .ok (.aload_n 0, 1) := by decide +kernel
theorem dX5_single_93 : decode cX5_single 93 = .ok (.getfield 108, 3) := by decide +kernel
theorem dX5_single_96 : decode cX5_single 96 = .ok (.iload 5, 2) := by decide +kernel
theorem dX5_single_98 : decode cX5_single 98 = .ok (.iastore, 1) := by decide +kernel
theorem dX5_single_99 : decode cX5_single 99 = .ok (.aload_n 0, 1) := by decide +kernel
theorem dX5_single_100 : decode cX5_single 100 = .ok (.getfield 91, 3) := by decide +kernel
theorem dX5_single_103 : decode cX5_single 103 = .ok (.ifCond .ne 17, 3) := by decide +kernel
theorem dX5_single_106 : decode cX5_single 106 = .ok (.iload 5, 2) := by decide +kernel
theorem dX5_single_108 : decode cX5_single 108 = .ok (.aload_n 0, 1) := by decide +kernel
theorem dX5_single_109 : decode cX5_single 109 = .ok (.getfield 35, 3) := by decide +kernel
theorem dX5_single_112 : decode cX5_single 112 = .ok (.aload_n 0, 1) := by decide +kernel
theorem dX5_single_113 : decode cX5_single 113 = .ok (.getfield 108, 3) := by decide +kernel
theorem dX5_single_116 : decode cX5_single 116 = .ok (.iaload, 1) := by decide +kernel
theorem dX5_single_117 : decode cX5_single 117 = .ok (.if_icmp .ge 7, 3) := by decide +kernel
theorem dX5_single_120 : decode cX5_single 120 = .ok (.iconst (-1), 1) := by decide +kernel
theorem dX5_single_121 : decode cX5_single 121 = .ok (.goto 15, 3) := by decide +kernel
theorem dX5_single_124 : decode cX5_single 124 = .ok (.aload_n 0, 1) := by decide +kernel
theorem dX5_single_125 : decode cX5_single 125 = .ok (.iconst 1, 1) := by decide +kernel
theorem dX5_single_126 : decode cX5_single 126 = .ok (.iload_n 3, 1) := by decide +kernel
theorem dX5_single_127 : decode cX5_single 127 = .ok (.iconst 1, 1) := by decide +kernel
theorem dX5_single_128 : decode cX5_single 128 = .ok (.iadd, 1) := by decide +kernel
theorem dX5_single_129 : decode cX5_single 129 = .ok (.iload_n 2, 1) := by decide +kernel
theorem dX5_single_130 : decode cX5_single 130 = .ok (.iload 5, 2) := by decide +kernel
theorem dX5_single_132 : decode cX5_single 132 = .ok (.iadd, 1) := by decide +kernel
theorem dX5_single_133 : decode cX5_single 133 = .ok (.invokevirtual 118, 3) := by decide +kernel
theorem dX5_single_136 : decode cX5_single 136 = .ok (.ireturn, 1) := by decide +kernel
theorem dX5_single_137 : decode cX5_single 137 = .ok (.iload 4, 2) := by decide +kernel
theorem dX5_single_139 : decode cX5_single 139 = .ok (.bipush 45, 2) := by decide +kernel
theorem dX5_single_141 : decode cX5_single 141 = .ok (.if_icmp .ne 13, 3) := by decide +kernel
theorem dX5_single_144 : decode cX5_single 144 = .ok (.aload_n 0, 1) := by decide +kernel
theorem dX5_single_145 : decode cX5_single 145 = .ok (.iconst 2, 1) := by decide +kernel
theorem dX5_single_146 : decode cX5_single 146 = .ok (.iload_n 3, 1) := by decide +kernel
theorem dX5_single_147 : decode cX5_single 147 = .ok (.iconst 1, 1) := by decide +kernel
theorem dX5_single_148 : decode cX5_single 148 = .ok (.iadd, 1) := by decide +kernel
theorem dX5_single_149 : decode cX5_single 149 = .ok (.iload_n 2, 1) := by decide +kernel
theorem dX5_single_150 : decode cX5_single 150 = .ok (.invokevirtual 118, 3) := by decide +kernel
theorem dX5_single_153 : decode cX5_single 153 = .ok (.ireturn, 1) := by decide +kernel
theorem dX5_single_154 : decode cX5_single 154 = .ok (.iload 4, 2) := by decide +kernel
theorem dX5_single_156 : decode cX5_single 156 = .ok (.bipush 63, 2) := by decide +kernel
theorem dX5_single_158 : decode cX5_single 158 = .ok (.if_icmp .ne 57, 3) := by decide +kernel
theorem dX5_single_161 : decode cX5_single 161 = .ok (.aload_n 0, 1) := by decide +kernel
theorem dX5_single_162 : decode cX5_single 162 = .ok (.getfield 32, 3) := by decide +kernel
theorem dX5_single_165 : decode cX5_single 165 = .ok (.aload_n 0, 1) := by decide +kernel
theorem dX5_single_166 : decode cX5_single 166 = .ok (.getfield 108, 3) := by decide +kernel
theorem dX5_single_169 : decode cX5_single 169 = .ok (.aload_n 0, 1) := by decide +kernel
theorem dX5_single_170 : decode cX5_single 170 = .ok (.iload_n 1, 1) := by decide +kernel
theorem dX5_single_171 : decode cX5_single 171 = .ok (.iload_n 2, 1) := by decide +kernel
theorem dX5_single_172 : decode cX5_single 172 = .ok (.invokevirtual 125, 3) := by decide +kernel
theorem dX5_single_175 : decode cX5_single 175 = .ok (.ifCond .eq 7, 3) := by decide +kernel
theorem dX5_single_178 : decode cX5_single 178 = .ok (.iconst 1, 1) := by decide +kernel
theorem dX5_single_179 : decode cX5_single 179 = .ok (.goto 4, 3) := by decide +kernel
theorem dX5_single_182 : decode cX5_single 182 = .ok (.iconst 0, 1) := by decide +kernel
theorem dX5_single_183 : decode cX5_single 183 = .ok (.iastore, 1) := by decide +kernel
theorem dX5_single_184 : decode cX5_single 184 = .ok (.aload_n 0, 1) := by decide +kernel
theorem dX5_single_185 : decode cX5_single 185 = .ok (.getfield 91, 3) := by decide +kernel
theorem dX5_single_188 : decode cX5_single 188 = .ok (.ifCond .eq 7, 3) := by decide +kernel
theorem dX5_single_191 : decode cX5_single 191 = .ok (.iconst (-1), 1) := by decide +kernel
theorem dX5_single_192 : decode cX5_single 192 = .ok (.goto 22, 3) := by decide +kernel
theorem dX5_single_195 : decode cX5_single 195 = .ok (.aload_n 0, 1) := by decide +kernel
theorem dX5_single_196 : decode cX5_single 196 = .ok (.iconst 3, 1) := by decide +kernel
theorem dX5_single_197 : decode cX5_single 197 = .ok (.iload_n 3, 1) := by decide +kernel
theorem dX5_single_198 : decode cX5_single 198 = .ok (.iconst 1, 1) := by decide +kernel
theorem dX5_single_199 : decode cX5_single 199 = .ok (.iadd, 1) := by decide +kernel
theorem dX5_single_200 : decode cX5_single 200 = .ok (.iload_n 2, 1) := by decide +kernel
theorem dX5_single_201 : decode cX5_single 201 = .ok (.aload_n 0, 1) := by decide +kernel
theorem dX5_single_202 : decode cX5_single 202 = .ok (.getfield 32, 3) := by decide +kernel
theorem dX5_single_205 : decode cX5_single 205 = .ok (.aload_n 0, 1) := by decide +kernel
theorem dX5_single_206 : decode cX5_single 206 = .ok (.getfield 108, 3) := by decide +kernel
theorem dX5_single_209 : decode cX5_single 209 = .ok (.iaload, 1) := by decide +kernel
theorem dX5_single_210 : decode cX5_single 210 = .ok (.iadd, 1) := by decide +kernel
theorem dX5_single_211 : decode cX5_single 211 = .ok (.invokevirtual 118, 3) := by decide +kernel
theorem dX5_single_214 : decode cX5_single 214 = .ok (.ireturn, 1) := by decide +kernel
theorem dX5_single_215 : decode cX5_single 215 = .ok (.aload_n 0, 1) := by decide +kernel
theorem dX5_single_216 : decode cX5_single 216 = .ok (.iload_n 1, 1) := by decide +kernel
theorem dX5_single_217 : decode cX5_single 217 = .ok (.iload_n 2, 1) := by decide +kernel
theorem dX5_single_218 : decode cX5_single 218 = .ok (.invokevirtual 125, 3) := by decide +kernel
theorem dX5_single_221 : decode cX5_single 221 = .ok (.ifCond .eq 15, 3) := by decide +kernel
theorem dX5_single_224 : decode cX5_single 224 = .ok (.aload_n 0, 1) := by decide +kernel
theorem dX5_single_225 : decode cX5_single 225 = .ok (.iconst 0, 1) := by decide +kernel
theorem dX5_single_226 : decode cX5_single 226 = .ok (.iload_n 3, 1) := by decide +kernel
theorem dX5_single_227 : decode cX5_single 227 = .ok (.iload_n 2, 1) := by decide +kernel
theorem dX5_single_228 : decode cX5_single 228 = .ok (.iconst 1, 1) := by decide +kernel
theorem dX5_single_229 : decode cX5_single 229 = .ok (.iadd, 1) := by decide +kernel
theorem dX5_single_230 : decode cX5_single 230 = .ok (.invokevirtual 118, 3) := by decide +kernel
theorem dX5_single_233 : decode cX5_single 233 = .ok (.goto 4, 3) := by decide +kernel
theorem dX5_single_236 : decode cX5_single 236 = .ok (.iconst (-1), 1) := by decide +kernel
theorem dX5_single_237 : decode cX5_single 237 = .ok (.ireturn, 1) := by decide +kernel
theorem dX5_come_0 : decode cX5_come 0 = .ok (.aload_n 0, 1) := by decide +kernel
theorem dX5_come_1 : decode cX5_come 1 = .ok (.iload_n 1, 1) := by decide +kernel
theorem dX5_come_2 : decode cX5_come 2 = .ok (.invokevirtual 74, 3) := by decide +kernel
theorem dX5_come_5 : decode cX5_come 5 = .ok (.istore_n 3, 1) := by decide +kernel
theorem dX5_come_6 : decode cX5_come 6 = .ok (.iload_n 3, 1) := by decide +kernel
theorem dX5_come_7 : decode cX5_come 7 = .ok (.bipush 40, 2) := by decide +kernel
theorem dX5_come_9 : decode cX5_come 9 = .ok (.if_icmp .ne 10, 3) := by decide +kernel
theorem dX5_come_12 : decode cX5_come 12 = .ok (.aload_n 0, 1) := by decide +kernel
theorem dX5_come_13 : decode cX5_come 13 = .ok (.iload_n 1, 1) := by decide +kernel
theorem dX5_come_14 : decode cX5_come 14 = .ok (.iload_n 2, 1) := by decide +kernel
theorem dX5_come_15 : decode cX5_come 15 = .ok (.invokevirtual 128, 3) := by decide +kernel
theorem dX5_come_18 : decode cX5_come 18 = .ok (.ireturn, 1) := by decide +kernel
theorem dX5_come_19 : decode cX5_come 19 = .ok (.iload_n 3, 1) := by decide +kernel
theorem dX5_come_20 : decode cX5_come 20 = .ok (.bipush 41, 2) := by decide +kernel
theorem dX5_come_22 : decode cX5_come 22 = .ok (.if_icmp .ne 10, 3) := by decide +kernel
theorem dX5_come_25 : decode cX5_come 25 = .ok (.aload_n 0, 1) := by decide +kernel
theorem dX5_come_26 : decode cX5_come 26 = .ok (.iload_n 1, 1) := by decide +kernel
theorem dX5_come_27 : decode cX5_come 27 = .ok (.iload_n 2, 1) := by decide +kernel
theorem dX5_come_28 : decode cX5_come 28 = .ok (.invokevirtual 131, 3) := by decide +kernel
theorem dX5_come_31 : decode cX5_come 31 = .ok (.ireturn, 1) := by decide +kernel
theorem dX5_come_32 : decode cX5_come 32 = .ok (.iload_n 3, 1) := by decide +kernel
theorem dX5_come_33 : decode cX5_come 33 = .ok (.bipush 36, 2) := by decide +kernel
theorem dX5_come_35 : decode cX5_come 35 = .ok (.if_icmp .ne 40, 3) := by decide +kernel
theorem dX5_come_38 : decode cX5_come 38 = .ok (.iload_n 1, 1) := by decide +kernel
theorem dX5_come_39 : decode cX5_come 39 = .ok (.iconst 1, 1) := by decide +kernel
theorem dX5_come_40 : decode cX5_come 40 = .ok (.iadd, 1) := by decide +kernel
theorem dX5_come_41 : decode cX5_come 41 = .ok (.aload_n 0, 1) := by decide +kernel
theorem dX5_come_42 : decode cX5_come 42 = .ok (.getfield 13, 3) := by decide +kernel
theorem dX5_come_45 : decode cX5_come 45 = .ok (.iconst 1, 1) := by decide +kernel
theorem dX5_come_46 : decode cX5_come 46 = .ok (.iaload, 1) := by decide +kernel
theorem dX5_come_47 : decode cX5_come 47 = .ok (.if_icmp .ne 28, 3) := by decide +kernel
theorem dX5_come_50 : decode cX5_come 50 = .ok (.iload_n 2, 1) := by decide +kernel
theorem dX5_come_51 : decode cX5_come 51 = .ok (.aload_n 0, 1) := by decide +kernel
theorem dX5_come_52 : decode cX5_come 52 = .ok (.getfield 13, 3) := by decide +kernel
theorem dX5_come_55 : decode cX5_come 55 = .ok (.iconst 0, 1) := by decide +kernel
theorem dX5_come_56 : decode cX5_come 56 = .ok (.iaload, 1) := by decide +kernel
theorem dX5_come_57 : decode cX5_come 57 = .ok (.if_icmp .ne 16, 3) := by decide +kernel
theorem dX5_come_60 : decode cX5_come 60 = .ok (.aload_n 0, 1) := by decide +kernel
theorem dX5_come_61 : decode cX5_come 61 = .ok (.bipush 7, 2) := by decide +kernel
theorem dX5_come_63 : decode cX5_come 63 = .ok (.iload_n 1, 1) := by decide +kernel
theorem dX5_come_64 : decode cX5_come 64 = .ok (.iconst 1, 1) := by decide +kernel
theorem dX5_come_65 : decode cX5_come 65 = .ok (.iadd, 1) := by decide +kernel
theorem dX5_come_66 : decode cX5_come 66 = .ok (.iload_n 2, 1) := by decide +kernel
theorem dX5_come_67 : decode cX5_come 67 = .ok (.invokevirtual 118, 3) := by decide +kernel
theorem dX5_come_70 : decode cX5_come 70 = .ok (.goto 4, 3) := by decide +kernel
theorem dX5_come_73 : decode cX5_come 73 = .ok (.iconst (-1), 1) := by decide +kernel
theorem dX5_come_74 : decode cX5_come 74 = .ok (.ireturn, 1) := by decide +kernel
theorem dX5_come_75 : decode cX5_come 75 = .ok (.iload_n 3, 1) := by decide +kernel
theorem dX5_come_76 : decode cX5_come 76 = .ok (.bipush 37, 2) := by decide +kernel
theorem dX5_come_78 : decode cX5_come 78 = .ok (.if_icmp .ne 64, 3) := by decide +kernel
theorem dX5_come_81 : decode cX5_come 81 = .ok (.aload_n 0, 1) := by decide +kernel
theorem dX5_come_82 : decode cX5_come 82 = .ok (.iload_n 1, 1) := by decide +kernel
theorem dX5_come_83 : decode cX5_come 83 = .ok (.iconst 1, 1) := by decide +kernel
theorem dX5_come_84 : decode cX5_come 84 = .ok (.iadd, 1) := by decide +kernel
theorem dX5_come_85 : decode cX5_come 85 = .ok (.invokevirtual 74, 3) := by decide +kernel
theorem dX5_come_88 : decode cX5_come 88 = .ok (.istore 4, 2) := by decide +kernel
theorem dX5_come_90 : decode cX5_come 90 = .ok (.iload 4, 2) := by decide +kernel
theorem dX5_come_92 : decode cX5_come 92 = .ok (.bipush 98, 2) := by decide +kernel
theorem dX5_come_94 : decode cX5_come 94 = .ok (.if_icmp .ne 10, 3) := by decide +kernel
theorem dX5_come_97 : decode cX5_come 97 = .ok (.aload_n 0, 1) := by decide +kernel
theorem dX5_come_98 : decode cX5_come 98 = .ok (.iload_n 1, 1) := by decide +kernel
theorem dX5_come_99 : decode cX5_come 99 = .ok (.iload_n 2, 1) := by decide +kernel
theorem dX5_come_100 : decode cX5_come 100 = .ok (.invokevirtual 134, 3) := by decide +kernel
theorem dX5_come_103 : decode cX5_come 103 = .ok (.ireturn, 1) := by decide +kernel
theorem dX5_come_104 : decode cX5_come 104 = .ok (.iload 4, 2) := by decide +kernel
theorem dX5_come_106 : decode cX5_come 106 = .ok (.bipush 102, 2) := by decide +kernel
theorem dX5_come_108 : decode cX5_come 108 = .ok (.if_icmp .ne 10, 3) := by decide +kernel
theorem dX5_come_111 : decode cX5_come 111 = .ok (.aload_n 0, 1) := by decide +kernel
theorem dX5_come_112 : decode cX5_come 112 = .ok (.iload_n 1, 1) := by decide +kernel
theorem dX5_come_113 : decode cX5_come 113 = .ok (.iload_n 2, 1) := by decide +kernel
theorem dX5_come_114 : decode cX5_come 114 = .ok (.invokevirtual 137, 3) := by decide +kernel
theorem dX5_come_117 : decode cX5_come 117 = .ok (.ireturn, 1) := by decide +kernel
theorem dX5_come_118 : decode cX5_come 118 = .ok (.iload 4, 2) := by decide +kernel
theorem dX5_come_120 : decode cX5_come 120 = .ok (.bipush 49, 2) := by decide +kernel
theorem dX5_come_122 : decode cX5_come 122 = .ok (.bipush 57, 2) := by decide +kernel
theorem dX5_come_124 : decode cX5_come 124 = .ok (.invokestatic 63, 3) := by decide +kernel
theorem dX5_come_127 : decode cX5_come 127 = .ok (.ifCond .eq 15, 3) := by decide +kernel
theorem dX5_come_130 : decode cX5_come 130 = .ok (.aload_n 0, 1) := by decide +kernel
theorem dX5_come_131 : decode cX5_come 131 = .ok (.iload 4, 2) := by decide +kernel
theorem dX5_come_133 : decode cX5_come 133 = .ok (.bipush 49, 2) := by decide +kernel
theorem dX5_come_135 : decode cX5_come 135 = .ok (.isub, 1) := by decide +kernel
theorem dX5_come_136 : decode cX5_come 136 = .ok (.iload_n 1, 1) := by decide +kernel
theorem dX5_come_137 : decode cX5_come 137 = .ok (.iload_n 2, 1) := by decide +kernel
theorem dX5_come_138 : decode cX5_come 138 = .ok (.invokevirtual 140, 3) := by decide +kernel
theorem dX5_come_141 : decode cX5_come 141 = .ok (.ireturn, 1) := by decide +kernel
theorem dX5_come_142 : decode cX5_come 142 = .ok (.aload_n 0, 1) := by decide +kernel
theorem dX5_come_143 : decode cX5_come 143 = .ok (.iload_n 1, 1) := by decide +kernel
theorem dX5_come_144 : decode cX5_come 144 = .ok (.iload_n 2, 1) := by decide +kernel
theorem dX5_come_145 : decode cX5_come 145 = .ok (.invokevirtual 143, 3) := by decide +kernel
theorem dX5_come_148 : decode cX5_come 148 = .ok (.ireturn, 1) := by decide +kernel
theorem dX5_change_0 : decode cX5_change 0 = .ok (.aload_n 0, 1) := by decide +kernel
theorem dX5_change_1 : decode cX5_change 1 = .ok (.getfield 26, 3) := by decide +kernel
theorem dX5_change_4 : decode cX5_change 4 = .ok (.iload_n 1, 1) := by decide +kernel
theorem dX5_change_5 : decode cX5_change 5 = .ok (.iaload, 1) := by decide +kernel
theorem dX5_change_6 : decode cX5_change 6 = .ok (.iconst 1, 1) := by decide +kernel
theorem dX5_change_7 : decode cX5_change 7 = .ok (.if_icmp .ne 18, 3) := by decide +kernel
theorem dX5_change_10 : decode cX5_change 10 = .ok (.aload_n 0, 1) := by decide +kernel
theorem dX5_change_11 : decode cX5_change 11 = .ok (.getfield 32, 3) := by decide +kernel
theorem dX5_change_14 : decode cX5_change 14 = .ok (.iload_n 1, 1) := by decide +kernel
theorem dX5_change_15 : decode cX5_change 15 = .ok (.iaload, 1) := by decide +kernel
theorem dX5_change_16 : decode cX5_change 16 = .ok (.aload_n 0, 1) := by decide +kernel
theorem dX5_change_17 : decode cX5_change 17 = .ok (.getfield 35, 3) := by decide +kernel
theorem dX5_change_20 : decode cX5_change 20 = .ok (.iload_n 1, 1) := by decide +kernel
theorem dX5_change_21 : decode cX5_change 21 = .ok (.iaload, 1) := by decide +kernel
theorem dX5_change_22 : decode cX5_change 22 = .ok (.if_icmp .gt 23, 3) := by decide +kernel
theorem dX5_change_25 : decode cX5_change 25 = .ok (.aload_n 0, 1) := by decide +kernel
theorem dX5_change_26 : decode cX5_change 26 = .ok (.getfield 26, 3) := by decide +kernel
theorem dX5_change_29 : decode cX5_change 29 = .ok (.iload_n 1, 1) := by decide +kernel
theorem dX5_change_30 : decode cX5_change 30 = .ok (.iaload, 1) := by decide +kernel
theorem dX5_change_31 : decode cX5_change 31 = .ok (.iconst 3, 1) := by decide +kernel
theorem dX5_change_32 : decode cX5_change 32 = .ok (.if_icmp .ne 37, 3) := by decide +kernel
theorem dX5_change_35 : decode cX5_change 35 = .ok (.aload_n 0, 1) := by decide +kernel
theorem dX5_change_36 : decode cX5_change 36 = .ok (.getfield 32, 3) := by decide +kernel
theorem dX5_change_39 : decode cX5_change 39 = .ok (.iload_n 1, 1) := by decide +kernel
theorem dX5_change_40 : decode cX5_change 40 = .ok (.iaload, 1) := by decide +kernel
theorem dX5_change_41 : decode cX5_change 41 = .ok (.iconst 1, 1) := by decide +kernel
theorem dX5_change_42 : decode cX5_change 42 = .ok (.if_icmp .ne 27, 3) := by decide +kernel
theorem dX5_change_45 : decode cX5_change 45 = .ok (.aload_n 0, 1) := by decide +kernel
theorem dX5_change_46 : decode cX5_change 46 = .ok (.getfield 32, 3) := by decide +kernel
theorem dX5_change_49 : decode cX5_change 49 = .ok (.iload_n 1, 1) := by decide +kernel
theorem dX5_change_50 : decode cX5_change 50 = .ok (.dup2, 1) := by decide +kernel
theorem dX5_change_51 : decode cX5_change 51 = .ok (.iaload, 1) := by decide +kernel
theorem dX5_change_52 : decode cX5_change 52 = .ok (.iconst 1, 1) := by decide +kernel
theorem dX5_change_53 : decode cX5_change 53 = .ok (.isub, 1) := by decide +kernel
theorem dX5_change_54 : decode cX5_change 54 = .ok (.iastore, 1) := by decide +kernel
theorem dX5_change_55 : decode cX5_change 55 = .ok (.aload_n 0, 1) := by decide +kernel
theorem dX5_change_56 : decode cX5_change 56 = .ok (.getfield 23, 3) := by decide +kernel
theorem dX5_change_59 : decode cX5_change 59 = .ok (.iload_n 1, 1) := by decide +kernel
theorem dX5_change_60 : decode cX5_change 60 = .ok (.iaload, 1) := by decide +kernel
theorem dX5_change_61 : decode cX5_change 61 = .ok (.aload_n 0, 1) := by decide +kernel
theorem dX5_change_62 : decode cX5_change 62 = .ok (.getfield 32, 3) := by decide +kernel
theorem dX5_change_65 : decode cX5_change 65 = .ok (.iload_n 1, 1) := by decide +kernel
theorem dX5_change_66 : decode cX5_change 66 = .ok (.iaload, 1) := by decide +kernel
theorem dX5_change_67 : decode cX5_change 67 = .ok (.iadd, 1) := by decide +kernel
theorem dX5_change_68 : decode cX5_change 68 = .ok (.ireturn, 1) := by decide +kernel
theorem dX5_change_69 : decode cX5_change 69 = .ok (.aload_n 0, 1) := by decide +kernel
theorem dX5_change_70 : decode cX5_change 70 = .ok (.getfield 26, 3) := by decide +kernel
theorem dX5_change_73 : decode cX5_change 73 = .ok (.iload_n 1, 1) := by decide +kernel
theorem dX5_change_74 : decode cX5_change 74 = .ok (.iaload, 1) := by decide +kernel
theorem dX5_change_75 : decode cX5_change 75 = .ok (.iconst 2, 1) := by decide +kernel
theorem dX5_change_76 : decode cX5_change 76 = .ok (.if_icmp .ne 53, 3) := by decide +kernel
theorem dX5_change_79 : decode cX5_change 79 = .ok (.aload_n 0, 1) := by decide +kernel
theorem dX5_change_80 : decode cX5_change 80 = .ok (.aload_n 0, 1) := by decide +kernel
theorem dX5_change_81 : decode cX5_change 81 = .ok (.getfield 20, 3) := by decide +kernel
theorem dX5_change_84 : decode cX5_change 84 = .ok (.iload_n 1, 1) := by decide +kernel
theorem dX5_change_85 : decode cX5_change 85 = .ok (.iaload, 1) := by decide +kernel
theorem dX5_change_86 : decode cX5_change 86 = .ok (.aload_n 0, 1) := by decide +kernel
theorem dX5_change_87 : decode cX5_change 87 = .ok (.getfield 23, 3) := by decide +kernel
theorem dX5_change_90 : decode cX5_change 90 = .ok (.iload_n 1, 1) := by decide +kernel
theorem dX5_change_91 : decode cX5_change 91 = .ok (.iaload, 1) := by decide +kernel
theorem dX5_change_92 : decode cX5_change 92 = .ok (.aload_n 0, 1) := by decide +kernel
theorem dX5_change_93 : decode cX5_change 93 = .ok (.getfield 32, 3) := by decide +kernel
theorem dX5_change_96 : decode cX5_change 96 = .ok (.iload_n 1, 1) := by decide +kernel
theorem dX5_change_97 : decode cX5_change 97 = .ok (.iaload, 1) := by decide +kernel
theorem dX5_change_98 : decode cX5_change 98 = .ok (.iadd, 1) := by decide +kernel
theorem dX5_change_99 : decode cX5_change 99 = .ok (.invokevirtual 125, 3) := by decide +kernel
theorem dX5_change_102 : decode cX5_change 102 = .ok (.ifCond .eq 27, 3) := by decide +kernel
theorem dX5_change_105 : decode cX5_change 105 = .ok (.aload_n 0, 1) := by decide +kernel
theorem dX5_change_106 : decode cX5_change 106 = .ok (.getfield 32, 3) := by decide +kernel
theorem dX5_change_109 : decode cX5_change 109 = .ok (.iload_n 1, 1) := by decide +kernel
theorem dX5_change_110 : decode cX5_change 110 = .ok (.dup2, 1) := by decide +kernel
theorem dX5_change_111 : decode cX5_change 111 = .ok (.iaload, 1) := by decide +kernel
theorem dX5_change_112 : decode cX5_change 112 = .ok (.iconst 1, 1) := by decide +kernel
theorem dX5_change_113 : decode cX5_change 113 = .ok (.iadd, 1) := by decide +kernel
theorem dX5_change_114 : decode cX5_change 114 = .ok (.iastore, 1) := by decide +kernel
theorem dX5_change_115 : decode cX5_change 115 = .ok (.aload_n 0, 1) := by decide +kernel
theorem dX5_change_116 : decode cX5_change 116 = .ok (.getfield 23, 3) := by decide +kernel
theorem dX5_change_119 : decode cX5_change 119 = .ok (.iload_n 1, 1) := by decide +kernel
theorem dX5_change_120 : decode cX5_change 120 = .ok (.iaload, 1) := by decide +kernel
theorem dX5_change_121 : decode cX5_change 121 = .ok (.aload_n 0, 1) := by decide +kernel
theorem dX5_change_122 : decode cX5_change 122 = .ok (.getfield 32, 3) := by decide +kernel
theorem dX5_change_125 : decode cX5_change 125 = .ok (.iload_n 1, 1) := by decide +kernel
theorem dX5_change_126 : decode cX5_change 126 = .ok (.iaload, 1) := by decide +kernel
theorem dX5_change_127 : decode cX5_change 127 = .ok (.iadd, 1) := by decide +kernel
theorem dX5_change_128 : decode cX5_change 128 = .ok (.ireturn, 1) := by decide +kernel
theorem dX5_change_129 : decode cX5_change 129 = .ok (.iconst (-1), 1) := by decide +kernel
theorem dX5_change_130 : decode cX5_change 130 = .ok (.ireturn, 1) := by decide +kernel
theorem dX5_back_0 : decode cX5_back 0 = .ok (.aload_n 0, 1) := by decide +kernel
theorem dX5_back_1 : decode cX5_back 1 = .ok (.getfield 108, 3) := by decide +kernel
theorem dX5_back_4 : decode cX5_back 4 = .ok (.ifCond .le 42, 3) := by decide +kernel
theorem dX5_back_7 : decode cX5_back 7 = .ok (.aload_n 0, 1) := by decide +kernel
theorem dX5_back_8 : decode cX5_back 8 = .ok (.aload_n 0, 1) := by decide +kernel
theorem dX5_back_9 : decode cX5_back 9 = .ok (.getfield 108, 3) := by decide +kernel
theorem dX5_back_12 : decode cX5_back 12 = .ok (.iconst 1, 1) := by decide +kernel
theorem dX5_back_13 : decode cX5_back 13 = .ok (.isub, 1) := by decide +kernel
theorem dX5_back_14 : decode cX5_back 14 = .ok (.invokevirtual 155, 3) := by decide +kernel
theorem dX5_back_17 : decode cX5_back 17 = .ok (.istore_n 1, 1) := by decide +kernel
theorem dX5_back_18 : decode cX5_back 18 = .ok (.iload_n 1, 1) := by decide +kernel
theorem dX5_back_19 : decode cX5_back 19 = .ok (.ifCond .lt 5, 3) := by decide +kernel
theorem dX5_back_22 : decode cX5_back 22 = .ok (.iload_n 1, 1) := by decide +kernel
theorem dX5_back_23 : decode cX5_back 23 = .ok (.ireturn, 1) := by decide +kernel
theorem dX5_back_24 : decode cX5_back 24 = .ok (.aload_n 0, 1) := by decide +kernel
theorem dX5_back_25 : decode cX5_back 25 = .ok (.getfield 91, 3) := by decide +kernel
theorem dX5_back_28 : decode cX5_back 28 = .ok (.ifCond .eq 5, 3) := by decide +kernel
theorem dX5_back_31 : decode cX5_back 31 = .ok (.iconst (-1), 1) := by decide +kernel
theorem dX5_back_32 : decode cX5_back 32 = .ok (.ireturn, 1) := by decide +kernel
theorem dX5_back_33 : decode cX5_back 33 = .ok (.aload_n 0, 1) := by decide +kernel
theorem dX5_back_34 : decode cX5_back 34 = .ok (.dup, 1) := by decide +kernel
theorem dX5_back_35 : decode cX5_back 35 = .ok (.getfield 108, 3) := by decide +kernel
theorem dX5_back_38 : decode cX5_back 38 = .ok (.iconst 1, 1) := by decide +kernel
theorem dX5_back_39 : decode cX5_back 39 = .ok (.isub, 1) := by decide +kernel
theorem dX5_back_40 : decode cX5_back 40 = .ok (.putfield 108, 3) := by decide +kernel
theorem dX5_back_43 : decode cX5_back 43 = .ok (.goto (-43), 3) := by decide +kernel
theorem dX5_back_46 : decode cX5_back 46 = .ok (.iconst (-1), 1) := by decide +kernel
theorem dX5_back_47 : decode cX5_back 47 = .ok (.ireturn, 1) := by decide +kernel
theorem dX5_matches_0 : decode cX5_matches 0 = .ok (.aload_n 0, 1) := by decide +kernel
theorem dX5_matches_1 : decode cX5_matches 1 = .ok (.iconst 0, 1) := by decide +kernel
theorem dX5_matches_2 : decode cX5_matches 2 = .ok (.putfield 108, 3) := by decide +kernel
theorem dX5_matches_5 : decode cX5_matches 5 = .ok (.iload_n 1, 1) := by decide +kernel
theorem dX5_matches_6 : decode cX5_matches 6 = .ok (.istore_n 3, 1) := by decide +kernel
theorem dX5_matches_7 : decode cX5_matches 7 = .ok (.iload_n 2, 1) := by decide +kernel
theorem dX5_matches_8 : decode cX5_matches 8 = .ok (.istore 4, 2) := by decide +kernel
theorem dX5_matches_10 : decode cX5_matches 10 = .ok (.aload_n 0, 1) := by decide +kernel
theorem dX5_matches_11 : decode cX5_matches 11 = .ok (.getfield 91, 3) := by decide +kernel
theorem dX5_matches_14 : decode cX5_matches 14 = .ok (.ifCond .ne 140, 3) := by decide +kernel
theorem dX5_matches_17 : decode cX5_matches 17 = .ok (.iload_n 3, 1) := by decide +kernel
theorem dX5_matches_18 : decode cX5_matches 18 = .ok (.aload_n 0, 1) := by decide +kernel
theorem dX5_matches_19 : decode cX5_matches 19 = .ok (.getfield 13, 3) := by decide +kernel
theorem dX5_matches_22 : decode cX5_matches 22 = .ok (.iconst 1, 1) := by decide +kernel
theorem dX5_matches_23 : decode cX5_matches 23 = .ok (.iaload, 1) := by decide +kernel
theorem dX5_matches_24 : decode cX5_matches 24 = .ok (.if_icmp .lt 43, 3) := by decide +kernel
theorem dX5_matches_27 : decode cX5_matches 27 = .ok (.aload_n 0, 1) := by decide +kernel
theorem dX5_matches_28 : decode cX5_matches 28 = .ok (.aload_n 0, 1) := by decide +kernel
theorem dX5_matches_29 : decode cX5_matches 29 = .ok (.getfield 108, 3) := by decide +kernel
theorem dX5_matches_32 : decode cX5_matches 32 = .ok (.invokevirtual 111, 3) := by decide +kernel
theorem dX5_matches_35 : decode cX5_matches 35 = .ok (.aload_n 0, 1) := by decide +kernel
theorem dX5_matches_36 : decode cX5_matches 36 = .ok (.invokevirtual 104, 3) := by decide +kernel
theorem dX5_matches_39 : decode cX5_matches 39 = .ok (.ifCond .lt 9, 3) := by decide +kernel
theorem dX5_matches_42 : decode cX5_matches 42 = .ok (.aload_n 0, 1) := by decide +kernel
theorem dX5_matches_43 : decode cX5_matches 43 = .ok (.bipush (-2), 2) := by decide +kernel
theorem dX5_matches_45 : decode cX5_matches 45 = .ok (.putfield 91, 3) := by decide +kernel
theorem dX5_matches_48 : decode cX5_matches 48 = .ok (.aload_n 0, 1) := by decide +kernel
theorem dX5_matches_49 : decode cX5_matches 49 = .ok (.iload 4, 2) := by decide +kernel
theorem dX5_matches_51 : decode cX5_matches 51 = .ok (.putfield 146, 3) := by decide +kernel
theorem dX5_matches_54 : decode cX5_matches 54 = .ok (.aload_n 0, 1) := by decide +kernel
theorem dX5_matches_55 : decode cX5_matches 55 = .ok (.getfield 91, 3) := by decide +kernel
theorem dX5_matches_58 : decode cX5_matches 58 = .ok (.ifCond .ne 7, 3) := by decide +kernel
theorem dX5_matches_61 : decode cX5_matches 61 = .ok (.iconst 1, 1) := by decide +kernel
theorem dX5_matches_62 : decode cX5_matches 62 = .ok (.goto 4, 3) := by decide +kernel
theorem dX5_matches_65 : decode cX5_matches 65 = .ok (.iconst 0, 1) := by decide +kernel
theorem dX5_matches_66 : decode cX5_matches 66 = .ok (.ireturn, 1) := by decide +kernel
theorem dX5_matches_67 : decode cX5_matches 67 = .ok (.aload_n 0, 1) := by decide +kernel
theorem dX5_matches_68 : decode cX5_matches 68 = .ok (.getfield 20, 3) := by decide +kernel
theorem dX5_matches_71 : decode cX5_matches 71 = .ok (.aload_n 0, 1) := by decide +kernel
theorem dX5_matches_72 : decode cX5_matches 72 = .ok (.getfield 108, 3) := by decide +kernel
theorem dX5_matches_75 : decode cX5_matches 75 = .ok (.iload_n 3, 1) := by decide +kernel
theorem dX5_matches_76 : decode cX5_matches 76 = .ok (.iastore, 1) := by decide +kernel
theorem dX5_matches_77 : decode cX5_matches 77 = .ok (.aload_n 0, 1) := by decide +kernel
theorem dX5_matches_78 : decode cX5_matches 78 = .ok (.getfield 23, 3) := by decide +kernel
theorem dX5_matches_81 : decode cX5_matches 81 = .ok (.aload_n 0, 1) := by decide +kernel
theorem dX5_matches_82 : decode cX5_matches 82 = .ok (.getfield 108, 3) := by decide +kernel
theorem dX5_matches_85 : decode cX5_matches 85 = .ok (.iload 4, 2) := by decide +kernel
theorem dX5_matches_87 : decode cX5_matches 87 = .ok (.iastore, 1) := by decide +kernel
theorem dX5_matches_88 : decode cX5_matches 88 = .ok (.aload_n 0, 1) := by decide +kernel
theorem dX5_matches_89 : decode cX5_matches 89 = .ok (.iload_n 3, 1) := by decide +kernel
theorem dX5_matches_90 : decode cX5_matches 90 = .ok (.iload 4, 2) := by decide +kernel
theorem dX5_matches_92 : decode cX5_matches 92 = .ok (.invokevirtual 149, 3) := by decide +kernel
theorem dX5_matches_95 : decode cX5_matches 95 = .ok (.istore 4, 2) := by decide +kernel
theorem dX5_matches_97 : decode cX5_matches 97 = .ok (.iload 4, 2) := by decide +kernel
theorem dX5_matches_99 : decode cX5_matches 99 = .ok (.ifCond .ge 23, 3) := by decide +kernel
theorem dX5_matches_102 : decode cX5_matches 102 = .ok (.aload_n 0, 1) := by decide +kernel
theorem dX5_matches_103 : decode cX5_matches 103 = .ok (.getfield 91, 3) := by decide +kernel
theorem dX5_matches_106 : decode cX5_matches 106 = .ok (.ifCond .ne 10, 3) := by decide +kernel
theorem dX5_matches_109 : decode cX5_matches 109 = .ok (.aload_n 0, 1) := by decide +kernel
theorem dX5_matches_110 : decode cX5_matches 110 = .ok (.invokevirtual 152, 3) := by decide +kernel
theorem dX5_matches_113 : decode cX5_matches 113 = .ok (.goto 4, 3) := by decide +kernel
theorem dX5_matches_116 : decode cX5_matches 116 = .ok (.iconst (-1), 1) := by decide +kernel
theorem dX5_matches_117 : decode cX5_matches 117 = .ok (.istore 4, 2) := by decide +kernel
theorem dX5_matches_119 : decode cX5_matches 119 = .ok (.goto 13, 3) := by decide +kernel
theorem dX5_matches_122 : decode cX5_matches 122 = .ok (.aload_n 0, 1) := by decide +kernel
theorem dX5_matches_123 : decode cX5_matches 123 = .ok (.dup, 1) := by decide +kernel
theorem dX5_matches_124 : decode cX5_matches 124 = .ok (.getfield 108, 3) := by decide +kernel
theorem dX5_matches_127 : decode cX5_matches 127 = .ok (.iconst 1, 1) := by decide +kernel
theorem dX5_matches_128 : decode cX5_matches 128 = .ok (.iadd, 1) := by decide +kernel
theorem dX5_matches_129 : decode cX5_matches 129 = .ok (.putfield 108, 3) := by decide +kernel
theorem dX5_matches_132 : decode cX5_matches 132 = .ok (.iload 4, 2) := by decide +kernel
theorem dX5_matches_134 : decode cX5_matches 134 = .ok (.ifCond .ge 5, 3) := by decide +kernel
theorem dX5_matches_137 : decode cX5_matches 137 = .ok (.iconst 0, 1) := by decide +kernel
theorem dX5_matches_138 : decode cX5_matches 138 = .ok (.ireturn, 1) := by decide +kernel
theorem dX5_matches_139 : decode cX5_matches 139 = .ok (.aload_n 0, 1) := by decide +kernel
theorem dX5_matches_140 : decode cX5_matches 140 = .ok (.getfield 29, 3) := by decide +kernel
theorem dX5_matches_143 : decode cX5_matches 143 = .ok (.aload_n 0, 1) := by decide +kernel
theorem dX5_matches_144 : decode cX5_matches 144 = .ok (.getfield 108, 3) := by decide +kernel
theorem dX5_matches_147 : decode cX5_matches 147 = .ok (.iconst 1, 1) := by decide +kernel
theorem dX5_matches_148 : decode cX5_matches 148 = .ok (.isub, 1) := by decide +kernel
theorem dX5_matches_149 : decode cX5_matches 149 = .ok (.iaload, 1) := by decide +kernel
theorem dX5_matches_150 : decode cX5_matches 150 = .ok (.istore_n 3, 1) := by decide +kernel
theorem dX5_matches_151 : decode cX5_matches 151 = .ok (.goto (-141), 3) := by decide +kernel
theorem dX5_matches_154 : decode cX5_matches 154 = .ok (.iconst 0, 1) := by decide +kernel
theorem dX5_matches_155 : decode cX5_matches 155 = .ok (.ireturn, 1) := by decide +kernel
theorem dX5_search_0 : decode cX5_search 0 = .ok (.aload_n 0, 1) := by decide +kernel
theorem dX5_search_1 : decode cX5_search 1 = .ok (.iconst 0, 1) := by decide +kernel
theorem dX5_search_2 : decode cX5_search 2 = .ok (.putfield 87, 3) := by decide +kernel
theorem dX5_search_5 : decode cX5_search 5 = .ok (.aload_n 0, 1) := by decide +kernel
theorem dX5_search_6 : decode cX5_search 6 = .ok (.iconst 0, 1) := by decide +kernel
theorem dX5_search_7 : decode cX5_search 7 = .ok (.putfield 91, 3) := by decide +kernel
theorem dX5_search_10 : decode cX5_search 10 = .ok (.aload_n 0, 1) := by decide +kernel
theorem dX5_search_11 : decode cX5_search 11 = .ok (.iconst 0, 1) := by decide +kernel
theorem dX5_search_12 : decode cX5_search 12 = .ok (.putfield 55, 3) := by decide +kernel
theorem dX5_search_15 : decode cX5_search 15 = .ok (.iload_n 1, 1) := by decide +kernel
theorem dX5_search_16 : decode cX5_search 16 = .ok (.istore 4, 2) := by decide +kernel
theorem dX5_search_18 : decode cX5_search 18 = .ok (.iload 4, 2) := by decide +kernel
theorem dX5_search_20 : decode cX5_search 20 = .ok (.iload_n 2, 1) := by decide +kernel
theorem dX5_search_21 : decode cX5_search 21 = .ok (.ifCond .eq 7, 3) := by decide +kernel
theorem dX5_search_24 : decode cX5_search 24 = .ok (.iload_n 1, 1) := by decide +kernel
theorem dX5_search_25 : decode cX5_search 25 = .ok (.goto 9, 3) := by decide +kernel
theorem dX5_search_28 : decode cX5_search 28 = .ok (.aload_n 0, 1) := by decide +kernel
theorem dX5_search_29 : decode cX5_search 29 = .ok (.getfield 13, 3) := by decide +kernel
theorem dX5_search_32 : decode cX5_search 32 = .ok (.iconst 0, 1) := by decide +kernel
theorem dX5_search_33 : decode cX5_search 33 = .ok (.iaload, 1) := by decide +kernel
theorem dX5_search_34 : decode cX5_search 34 = .ok (.if_icmp .gt 64, 3) := by decide +kernel
theorem dX5_search_37 : decode cX5_search 37 = .ok (.aload_n 0, 1) := by decide +kernel
theorem dX5_search_38 : decode cX5_search 38 = .ok (.getfield 55, 3) := by decide +kernel
theorem dX5_search_41 : decode cX5_search 41 = .ok (.ifCond .ne 57, 3) := by decide +kernel
theorem dX5_search_44 : decode cX5_search 44 = .ok (.aload_n 0, 1) := by decide +kernel
theorem dX5_search_45 : decode cX5_search 45 = .ok (.getfield 91, 3) := by decide +kernel
theorem dX5_search_48 : decode cX5_search 48 = .ok (.ifCond .ne 50, 3) := by decide +kernel
theorem dX5_search_51 : decode cX5_search 51 = .ok (.aload_n 0, 1) := by decide +kernel
theorem dX5_search_52 : decode cX5_search 52 = .ok (.iload 4, 2) := by decide +kernel
theorem dX5_search_54 : decode cX5_search 54 = .ok (.putfield 158, 3) := by decide +kernel
theorem dX5_search_57 : decode cX5_search 57 = .ok (.aload_n 0, 1) := by decide +kernel
theorem dX5_search_58 : decode cX5_search 58 = .ok (.aload_n 0, 1) := by decide +kernel
theorem dX5_search_59 : decode cX5_search 59 = .ok (.iload_n 2, 1) := by decide +kernel
theorem dX5_search_60 : decode cX5_search 60 = .ok (.ifCond .eq 7, 3) := by decide +kernel
theorem dX5_search_63 : decode cX5_search 63 = .ok (.iconst 1, 1) := by decide +kernel
theorem dX5_search_64 : decode cX5_search 64 = .ok (.goto 4, 3) := by decide +kernel
theorem dX5_search_67 : decode cX5_search 67 = .ok (.iconst 0, 1) := by decide +kernel
theorem dX5_search_68 : decode cX5_search 68 = .ok (.iload 4, 2) := by decide +kernel
theorem dX5_search_70 : decode cX5_search 70 = .ok (.invokevirtual 161, 3) := by decide +kernel
theorem dX5_search_73 : decode cX5_search 73 = .ok (.ifCond .eq 15, 3) := by decide +kernel
theorem dX5_search_76 : decode cX5_search 76 = .ok (.aload_n 0, 1) := by decide +kernel
theorem dX5_search_77 : decode cX5_search 77 = .ok (.getfield 146, 3) := by decide +kernel
theorem dX5_search_80 : decode cX5_search 80 = .ok (.iload_n 3, 1) := by decide +kernel
theorem dX5_search_81 : decode cX5_search 81 = .ok (.if_icmp .eq 7, 3) := by decide +kernel
theorem dX5_search_84 : decode cX5_search 84 = .ok (.iconst 1, 1) := by decide +kernel
theorem dX5_search_85 : decode cX5_search 85 = .ok (.goto 4, 3) := by decide +kernel
theorem dX5_search_88 : decode cX5_search 88 = .ok (.iconst 0, 1) := by decide +kernel
theorem dX5_search_89 : decode cX5_search 89 = .ok (.putfield 55, 3) := by decide +kernel
theorem dX5_search_92 : decode cX5_search 92 = .ok (.iinc 4 1, 3) := by decide +kernel
theorem dX5_search_95 : decode cX5_search 95 = .ok (.goto (-77), 3) := by decide +kernel
theorem dX5_search_98 : decode cX5_search 98 = .ok (.aload_n 0, 1) := by decide +kernel
theorem dX5_search_99 : decode cX5_search 99 = .ok (.getfield 55, 3) := by decide +kernel
theorem dX5_search_102 : decode cX5_search 102 = .ok (.ifCond .eq 7, 3) := by decide +kernel
theorem dX5_search_105 : decode cX5_search 105 = .ok (.iconst 1, 1) := by decide +kernel
theorem dX5_search_106 : decode cX5_search 106 = .ok (.goto 7, 3) := by decide +kernel
theorem dX5_search_109 : decode cX5_search 109 = .ok (.aload_n 0, 1) := by decide +kernel
theorem dX5_search_110 : decode cX5_search 110 = .ok (.getfield 91, 3) := by decide +kernel
theorem dX5_search_113 : decode cX5_search 113 = .ok (.ireturn, 1) := by decide +kernel
theorem dX5_find_0 : decode cX5_find 0 = .ok (.iload_n 1, 1) := by decide +kernel
theorem dX5_find_1 : decode cX5_find 1 = .ok (.ifCond .lt 13, 3) := by decide +kernel
theorem dX5_find_4 : decode cX5_find 4 = .ok (.iload_n 1, 1) := by decide +kernel
theorem dX5_find_5 : decode cX5_find 5 = .ok (.aload_n 0, 1) := by decide +kernel
theorem dX5_find_6 : decode cX5_find 6 = .ok (.getfield 13, 3) := by decide +kernel
theorem dX5_find_9 : decode cX5_find 9 = .ok (.iconst 0, 1) := by decide +kernel
theorem dX5_find_10 : decode cX5_find 10 = .ok (.iaload, 1) := by decide +kernel
theorem dX5_find_11 : decode cX5_find 11 = .ok (.if_icmp .le 7, 3) := by decide +kernel
theorem dX5_find_14 : decode cX5_find 14 = .ok (.iconst (-1), 1) := by decide +kernel
theorem dX5_find_15 : decode cX5_find 15 = .ok (.goto 13, 3) := by decide +kernel
theorem dX5_find_18 : decode cX5_find 18 = .ok (.aload_n 0, 1) := by decide +kernel
theorem dX5_find_19 : decode cX5_find 19 = .ok (.iload_n 1, 1) := by decide +kernel
theorem dX5_find_20 : decode cX5_find 20 = .ok (.aload_n 0, 1) := by decide +kernel
theorem dX5_find_21 : decode cX5_find 21 = .ok (.invokevirtual 164, 3) := by decide +kernel
theorem dX5_find_24 : decode cX5_find 24 = .ok (.iconst (-1), 1) := by decide +kernel
theorem dX5_find_25 : decode cX5_find 25 = .ok (.invokevirtual 167, 3) := by decide +kernel
theorem dX5_find_28 : decode cX5_find 28 = .ok (.ireturn, 1) := by decide +kernel
theorem dX5_next_0 : decode cX5_next 0 = .ok (.aload_n 0, 1) := by decide +kernel
theorem dX5_next_1 : decode cX5_next 1 = .ok (.iconst 0, 1) := by decide +kernel
theorem dX5_next_2 : decode cX5_next 2 = .ok (.putfield 87, 3) := by decide +kernel
theorem dX5_next_5 : decode cX5_next 5 = .ok (.aload_n 0, 1) := by decide +kernel
theorem dX5_next_6 : decode cX5_next 6 = .ok (.iconst 0, 1) := by decide +kernel
theorem dX5_next_7 : decode cX5_next 7 = .ok (.putfield 55, 3) := by decide +kernel
theorem dX5_next_10 : decode cX5_next 10 = .ok (.aload_n 0, 1) := by decide +kernel
theorem dX5_next_11 : decode cX5_next 11 = .ok (.getfield 171, 3) := by decide +kernel
theorem dX5_next_14 : decode cX5_next 14 = .ok (.ifCond .lt 16, 3) := by decide +kernel
theorem dX5_next_17 : decode cX5_next 17 = .ok (.aload_n 0, 1) := by decide +kernel
theorem dX5_next_18 : decode cX5_next 18 = .ok (.getfield 171, 3) := by decide +kernel
theorem dX5_next_21 : decode cX5_next 21 = .ok (.aload_n 0, 1) := by decide +kernel
theorem dX5_next_22 : decode cX5_next 22 = .ok (.getfield 13, 3) := by decide +kernel
theorem dX5_next_25 : decode cX5_next 25 = .ok (.iconst 0, 1) := by decide +kernel
theorem dX5_next_26 : decode cX5_next 26 = .ok (.iaload, 1) := by decide +kernel
theorem dX5_next_27 : decode cX5_next 27 = .ok (.if_icmp .le 5, 3) := by decide +kernel
theorem dX5_next_30 : decode cX5_next 30 = .ok (.iconst 0, 1) := by decide +kernel
theorem dX5_next_31 : decode cX5_next 31 = .ok (.ireturn, 1) := by decide +kernel
theorem dX5_next_32 : decode cX5_next 32 = .ok (.aload_n 0, 1) := by decide +kernel
theorem dX5_next_33 : decode cX5_next 33 = .ok (.aload_n 0, 1) := by decide +kernel
theorem dX5_next_34 : decode cX5_next 34 = .ok (.getfield 171, 3) := by decide +kernel
theorem dX5_next_37 : decode cX5_next 37 = .ok (.iconst 0, 1) := by decide +kernel
theorem dX5_next_38 : decode cX5_next 38 = .ok (.aload_n 0, 1) := by decide +kernel
theorem dX5_next_39 : decode cX5_next 39 = .ok (.getfield 44, 3) := by decide +kernel
theorem dX5_next_42 : decode cX5_next 42 = .ok (.invokevirtual 167, 3) := by decide +kernel
theorem dX5_next_45 : decode cX5_next 45 = .ok (.istore_n 1, 1) := by decide +kernel
theorem dX5_next_46 : decode cX5_next 46 = .ok (.aload_n 0, 1) := by decide +kernel
theorem dX5_next_47 : decode cX5_next 47 = .ok (.iload_n 1, 1) := by decide +kernel
theorem dX5_next_48 : decode cX5_next 48 = .ok (.iconst 1, 1) := by decide +kernel
theorem dX5_next_49 : decode cX5_next 49 = .ok (.if_icmp .ne 10, 3) := by decide +kernel
theorem dX5_next_52 : decode cX5_next 52 = .ok (.aload_n 0, 1) := by decide +kernel
theorem dX5_next_53 : decode cX5_next 53 = .ok (.getfield 146, 3) := by decide +kernel
theorem dX5_next_56 : decode cX5_next 56 = .ok (.goto 4, 3) := by decide +kernel
theorem dX5_next_59 : decode cX5_next 59 = .ok (.iconst (-1), 1) := by decide +kernel
theorem dX5_next_60 : decode cX5_next 60 = .ok (.putfield 171, 3) := by decide +kernel
theorem dX5_next_63 : decode cX5_next 63 = .ok (.aload_n 0, 1) := by decide +kernel
theorem dX5_next_64 : decode cX5_next 64 = .ok (.iload_n 1, 1) := by decide +kernel
theorem dX5_next_65 : decode cX5_next 65 = .ok (.iconst 1, 1) := by decide +kernel
theorem dX5_next_66 : decode cX5_next 66 = .ok (.if_icmp .ne 10, 3) := by decide +kernel
theorem dX5_next_69 : decode cX5_next 69 = .ok (.aload_n 0, 1) := by decide +kernel
theorem dX5_next_70 : decode cX5_next 70 = .ok (.getfield 146, 3) := by decide +kernel
theorem dX5_next_73 : decode cX5_next 73 = .ok (.goto 4, 3) := by decide +kernel
theorem dX5_next_76 : decode cX5_next 76 = .ok (.iconst (-1), 1) := by decide +kernel
theorem dX5_next_77 : decode cX5_next 77 = .ok (.putfield 44, 3) := by decide +kernel
theorem dX5_next_80 : decode cX5_next 80 = .ok (.iload_n 1, 1) := by decide +kernel
theorem dX5_next_81 : decode cX5_next 81 = .ok (.ireturn, 1) := by decide +kernel
theorem dX5_makeCapture_0 : decode cX5_makeCapture 0 = .ok (.iload_n 1, 1) := by decide +kernel
theorem dX5_makeCapture_1 : decode cX5_makeCapture 1 = .ok (.ifCond .lt 14, 3) := by decide +kernel
theorem dX5_makeCapture_4 : decode cX5_makeCapture 4 = .ok (.iload_n 1, 1) := by decide +kernel
theorem dX5_makeCapture_5 : decode cX5_makeCapture 5 = .ok (.ifCond .ne 22, 3) := by decide +kernel
theorem dX5_makeCapture_8 : decode cX5_makeCapture 8 = .ok (.aload_n 0, 1) := by decide +kernel
theorem dX5_makeCapture_9 : decode cX5_makeCapture 9 = .ok (.getfield 101, 3) := by decide +kernel
theorem dX5_makeCapture_12 : decode cX5_makeCapture 12 = .ok (.ifCond .ne 15, 3) := by decide +kernel
theorem dX5_makeCapture_15 : decode cX5_makeCapture 15 = .ok (.aload_n 0, 1) := by decide +kernel
theorem dX5_makeCapture_16 : decode cX5_makeCapture 16 = .ok (.iload_n 2, 1) := by decide +kernel
theorem dX5_makeCapture_17 : decode cX5_makeCapture 17 = .ok (.aload_n 0, 1) := by decide +kernel
theorem dX5_makeCapture_18 : decode cX5_makeCapture 18 = .ok (.getfield 146, 3) := by decide +kernel
theorem dX5_makeCapture_21 : decode cX5_makeCapture 21 = .ok (.invokevirtual 180, 3) := by decide +kernel
theorem dX5_makeCapture_24 : decode cX5_makeCapture 24 = .ok (.goto 81, 3) := by decide +kernel
theorem dX5_makeCapture_27 : decode cX5_makeCapture 27 = .ok (.iload_n 1, 1) := by decide +kernel
theorem dX5_makeCapture_28 : decode cX5_makeCapture 28 = .ok (.aload_n 0, 1) := by decide +kernel
theorem dX5_makeCapture_29 : decode cX5_makeCapture 29 = .ok (.getfield 101, 3) := by decide +kernel
theorem dX5_makeCapture_32 : decode cX5_makeCapture 32 = .ok (.if_icmp .lt 26, 3) := by decide +kernel
theorem dX5_makeCapture_35 : decode cX5_makeCapture 35 = .ok (.aload_n 0, 1) := by decide +kernel
theorem dX5_makeCapture_36 : decode cX5_makeCapture 36 = .ok (.aload_n 0, 1) := by decide +kernel
theorem dX5_makeCapture_37 : decode cX5_makeCapture 37 = .ok (.getfield 91, 3) := by decide +kernel
theorem dX5_makeCapture_40 : decode cX5_makeCapture 40 = .ok (.ifCond .ne 8, 3) := by decide +kernel
theorem dX5_makeCapture_43 : decode cX5_makeCapture 43 = .ok (.bipush (-2), 2) := by decide +kernel
theorem dX5_makeCapture_45 : decode cX5_makeCapture 45 = .ok (.goto 7, 3) := by decide +kernel
theorem dX5_makeCapture_48 : decode cX5_makeCapture 48 = .ok (.aload_n 0, 1) := by decide +kernel
theorem dX5_makeCapture_49 : decode cX5_makeCapture 49 = .ok (.getfield 91, 3) := by decide +kernel
theorem dX5_makeCapture_52 : decode cX5_makeCapture 52 = .ok (.putfield 91, 3) := by decide +kernel
theorem dX5_makeCapture_55 : decode cX5_makeCapture 55 = .ok (.goto 50, 3) := by decide +kernel
theorem dX5_makeCapture_58 : decode cX5_makeCapture 58 = .ok (.aload_n 0, 1) := by decide +kernel
theorem dX5_makeCapture_59 : decode cX5_makeCapture 59 = .ok (.getfield 41, 3) := by decide +kernel
theorem dX5_makeCapture_62 : decode cX5_makeCapture 62 = .ok (.iload_n 1, 1) := by decide +kernel
theorem dX5_makeCapture_63 : decode cX5_makeCapture 63 = .ok (.iaload, 1) := by decide +kernel
theorem dX5_makeCapture_64 : decode cX5_makeCapture 64 = .ok (.ifCond .ge 18, 3) := by decide +kernel
theorem dX5_makeCapture_67 : decode cX5_makeCapture 67 = .ok (.aload_n 0, 1) := by decide +kernel
theorem dX5_makeCapture_68 : decode cX5_makeCapture 68 = .ok (.aload_n 0, 1) := by decide +kernel
theorem dX5_makeCapture_69 : decode cX5_makeCapture 69 = .ok (.getfield 38, 3) := by decide +kernel
theorem dX5_makeCapture_72 : decode cX5_makeCapture 72 = .ok (.iload_n 1, 1) := by decide +kernel
theorem dX5_makeCapture_73 : decode cX5_makeCapture 73 = .ok (.iaload, 1) := by decide +kernel
theorem dX5_makeCapture_74 : decode cX5_makeCapture 74 = .ok (.iconst 1, 1) := by decide +kernel
theorem dX5_makeCapture_75 : decode cX5_makeCapture 75 = .ok (.iadd, 1) := by decide +kernel
theorem dX5_makeCapture_76 : decode cX5_makeCapture 76 = .ok (.invokevirtual 184, 3) := by decide +kernel
theorem dX5_makeCapture_79 : decode cX5_makeCapture 79 = .ok (.goto 26, 3) := by decide +kernel
theorem dX5_makeCapture_82 : decode cX5_makeCapture 82 = .ok (.aload_n 0, 1) := by decide +kernel
theorem dX5_makeCapture_83 : decode cX5_makeCapture 83 = .ok (.aload_n 0, 1) := by decide +kernel
theorem dX5_makeCapture_84 : decode cX5_makeCapture 84 = .ok (.getfield 38, 3) := by decide +kernel
theorem dX5_makeCapture_87 : decode cX5_makeCapture 87 = .ok (.iload_n 1, 1) := by decide +kernel
theorem dX5_makeCapture_88 : decode cX5_makeCapture 88 = .ok (.iaload, 1) := by decide +kernel
theorem dX5_makeCapture_89 : decode cX5_makeCapture 89 = .ok (.aload_n 0, 1) := by decide +kernel
theorem dX5_makeCapture_90 : decode cX5_makeCapture 90 = .ok (.getfield 38, 3) := by decide +kernel
theorem dX5_makeCapture_93 : decode cX5_makeCapture 93 = .ok (.iload_n 1, 1) := by decide +kernel
theorem dX5_makeCapture_94 : decode cX5_makeCapture 94 = .ok (.iaload, 1) := by decide +kernel
theorem dX5_makeCapture_95 : decode cX5_makeCapture 95 = .ok (.aload_n 0, 1) := by decide +kernel
theorem dX5_makeCapture_96 : decode cX5_makeCapture 96 = .ok (.getfield 41, 3) := by decide +kernel
theorem dX5_makeCapture_99 : decode cX5_makeCapture 99 = .ok (.iload_n 1, 1) := by decide +kernel
theorem dX5_makeCapture_100 : decode cX5_makeCapture 100 = .ok (.iaload, 1) := by decide +kernel
theorem dX5_makeCapture_101 : decode cX5_makeCapture 101 = .ok (.iadd, 1) := by decide +kernel
theorem dX5_makeCapture_102 : decode cX5_makeCapture 102 = .ok (.invokevirtual 180, 3) := by decide +kernel
theorem dX5_makeCapture_105 : decode cX5_makeCapture 105 = .ok (.return_, 1) := by decide +kernel
theorem dX5_makeReplacement_0 : decode cX5_makeReplacement 0 = .ok (.iconst 0, 1) := by decide +kernel
theorem dX5_makeReplacement_1 : decode cX5_makeReplacement 1 = .ok (.istore_n 2, 1) := by decide +kernel
theorem dX5_makeReplacement_2 : decode cX5_makeReplacement 2 = .ok (.iload_n 2, 1) := by decide +kernel
theorem dX5_makeReplacement_3 : decode cX5_makeReplacement 3 = .ok (.aload_n 0, 1) := by decide +kernel
theorem dX5_makeReplacement_4 : decode cX5_makeReplacement 4 = .ok (.getfield 13, 3) := by decide +kernel
theorem dX5_makeReplacement_7 : decode cX5_makeReplacement 7 = .ok (.iconst 2, 1) := by decide +kernel
theorem dX5_makeReplacement_8 : decode cX5_makeReplacement 8 = .ok (.iaload, 1) := by decide +kernel
theorem dX5_makeReplacement_9 : decode cX5_makeReplacement 9 = .ok (.if_icmp .ge 101, 3) := by decide +kernel
theorem dX5_makeReplacement_12 : decode cX5_makeReplacement 12 = .ok (.aload_n 0, 1) := by decide +kernel
theorem dX5_makeReplacement_13 : decode cX5_makeReplacement 13 = .ok (.getfield 91, 3) := by decide +kernel
theorem dX5_makeReplacement_16 : decode cX5_makeReplacement 16 = .ok (.ifCond .ne 94, 3) := by decide +kernel
theorem dX5_makeReplacement_19 : decode cX5_makeReplacement 19 = .ok (.aload_n 0, 1) := by decide +kernel
theorem dX5_makeReplacement_20 : decode cX5_makeReplacement 20 = .ok (.iconst 2, 1) := by decide +kernel
theorem dX5_makeReplacement_21 : decode cX5_makeReplacement 21 = .ok (.iload_n 2, 1) := by decide +kernel
theorem dX5_makeReplacement_22 : decode cX5_makeReplacement 22 = .ok (.invokevirtual 59, 3) := by decide +kernel
theorem dX5_makeReplacement_25 : decode cX5_makeReplacement 25 = .ok (.istore_n 3, 1) := by decide +kernel
theorem dX5_makeReplacement_26 : decode cX5_makeReplacement 26 = .ok (.aload_n 0, 1) := by decide +kernel
theorem dX5_makeReplacement_27 : decode cX5_makeReplacement 27 = .ok (.iconst 2, 1) := by decide +kernel
theorem dX5_makeReplacement_28 : decode cX5_makeReplacement 28 = .ok (.iload_n 2, 1) := by decide +kernel
theorem dX5_makeReplacement_29 : decode cX5_makeReplacement 29 = .ok (.iconst 1, 1) := by decide +kernel
theorem dX5_makeReplacement_30 : decode cX5_makeReplacement 30 = .ok (.iadd, 1) := by decide +kernel
theorem dX5_makeReplacement_31 : decode cX5_makeReplacement 31 = .ok (.invokevirtual 59, 3) := by decide +kernel
theorem dX5_makeReplacement_34 : decode cX5_makeReplacement 34 = .ok (.istore 4, 2) := by decide +kernel
theorem dX5_makeReplacement_36 : decode cX5_makeReplacement 36 = .ok (.iload_n 3, 1) := by decide +kernel
theorem dX5_makeReplacement_37 : decode cX5_makeReplacement 37 = .ok (.bipush 37, 2) := by decide +kernel
theorem dX5_makeReplacement_39 : decode cX5_makeReplacement 39 = .ok (.if_icmp .eq 11, 3) := by decide +kernel
theorem dX5_makeReplacement_42 : decode cX5_makeReplacement 42 = .ok (.aload_n 0, 1) := by decide +kernel
theorem dX5_makeReplacement_43 : decode cX5_makeReplacement 43 = .ok (.iload_n 3, 1) := by decide +kernel
theorem dX5_makeReplacement_44 : decode cX5_makeReplacement 44 = .ok (.invokevirtual 177, 3) := by decide +kernel
theorem dX5_makeReplacement_47 : decode cX5_makeReplacement 47 = .ok (.goto 46, 3) := by decide +kernel
theorem dX5_makeReplacement_50 : decode cX5_makeReplacement 50 = .ok (.iload 4, 2) := by decide +kernel
theorem dX5_makeReplacement_52 : decode cX5_makeReplacement 52 = .ok (.bipush 37, 2) := by decide +kernel
theorem dX5_makeReplacement_54 : decode cX5_makeReplacement 54 = .ok (.if_icmp .ne 12, 3) := by decide +kernel
theorem dX5_makeReplacement_57 : decode cX5_makeReplacement 57 = .ok (.aload_n 0, 1) := by decide +kernel
theorem dX5_makeReplacement_58 : decode cX5_makeReplacement 58 = .ok (.iload 4, 2) := by decide +kernel
theorem dX5_makeReplacement_60 : decode cX5_makeReplacement 60 = .ok (.invokevirtual 177, 3) := by decide +kernel
theorem dX5_makeReplacement_63 : decode cX5_makeReplacement 63 = .ok (.goto 30, 3) := by decide +kernel
theorem dX5_makeReplacement_66 : decode cX5_makeReplacement 66 = .ok (.iload 4, 2) := by decide +kernel
theorem dX5_makeReplacement_68 : decode cX5_makeReplacement 68 = .ok (.invokestatic 71, 3) := by decide +kernel
theorem dX5_makeReplacement_71 : decode cX5_makeReplacement 71 = .ok (.ifCond .eq 16, 3) := by decide +kernel
theorem dX5_makeReplacement_74 : decode cX5_makeReplacement 74 = .ok (.aload_n 0, 1) := by decide +kernel
theorem dX5_makeReplacement_75 : decode cX5_makeReplacement 75 = .ok (.iload 4, 2) := by decide +kernel
theorem dX5_makeReplacement_77 : decode cX5_makeReplacement 77 = .ok (.bipush 49, 2) := by decide +kernel
theorem dX5_makeReplacement_79 : decode cX5_makeReplacement 79 = .ok (.isub, 1) := by decide +kernel
theorem dX5_makeReplacement_80 : decode cX5_makeReplacement 80 = .ok (.iload_n 1, 1) := by decide +kernel
theorem dX5_makeReplacement_81 : decode cX5_makeReplacement 81 = .ok (.invokevirtual 187, 3) := by decide +kernel
theorem dX5_makeReplacement_84 : decode cX5_makeReplacement 84 = .ok (.goto 9, 3) := by decide +kernel
theorem dX5_makeReplacement_87 : decode cX5_makeReplacement 87 = .ok (.aload_n 0, 1) := by decide +kernel
theorem dX5_makeReplacement_88 : decode cX5_makeReplacement 88 = .ok (.bipush (-2), 2) := by decide +kernel
theorem dX5_makeReplacement_90 : decode cX5_makeReplacement 90 = .ok (.putfield 91, 3) := by decide +kernel
theorem dX5_makeReplacement_93 : decode cX5_makeReplacement 93 = .ok (.iload_n 2, 1) := by decide +kernel
theorem dX5_makeReplacement_94 : decode cX5_makeReplacement 94 = .ok (.iload_n 3, 1) := by decide +kernel
theorem dX5_makeReplacement_95 : decode cX5_makeReplacement 95 = .ok (.bipush 37, 2) := by decide +kernel
theorem dX5_makeReplacement_97 : decode cX5_makeReplacement 97 = .ok (.if_icmp .ne 7, 3) := by decide +kernel
theorem dX5_makeReplacement_100 : decode cX5_makeReplacement 100 = .ok (.iconst 2, 1) := by decide +kernel
theorem dX5_makeReplacement_101 : decode cX5_makeReplacement 101 = .ok (.goto 4, 3) := by decide +kernel
theorem dX5_makeReplacement_104 : decode cX5_makeReplacement 104 = .ok (.iconst 1, 1) := by decide +kernel
theorem dX5_makeReplacement_105 : decode cX5_makeReplacement 105 = .ok (.iadd, 1) := by decide +kernel
theorem dX5_makeReplacement_106 : decode cX5_makeReplacement 106 = .ok (.istore_n 2, 1) := by decide +kernel
theorem dX5_makeReplacement_107 : decode cX5_makeReplacement 107 = .ok (.goto (-105), 3) := by decide +kernel
theorem dX5_makeReplacement_110 : decode cX5_makeReplacement 110 = .ok (.return_, 1) := by decide +kernel
theorem dX5_replace_0 : decode cX5_replace 0 = .ok (.iload_n 1, 1) := by decide +kernel
theorem dX5_replace_1 : decode cX5_replace 1 = .ok (.ifCond .ge 5, 3) := by decide +kernel
theorem dX5_replace_4 : decode cX5_replace 4 = .ok (.iconst (-1), 1) := by decide +kernel
theorem dX5_replace_5 : decode cX5_replace 5 = .ok (.ireturn, 1) := by decide +kernel
theorem dX5_replace_6 : decode cX5_replace 6 = .ok (.aload_n 0, 1) := by decide +kernel
theorem dX5_replace_7 : decode cX5_replace 7 = .ok (.iconst 0, 1) := by decide +kernel
theorem dX5_replace_8 : decode cX5_replace 8 = .ok (.putfield 87, 3) := by decide +kernel
theorem dX5_replace_11 : decode cX5_replace 11 = .ok (.aload_n 0, 1) := by decide +kernel
theorem dX5_replace_12 : decode cX5_replace 12 = .ok (.iconst 0, 1) := by decide +kernel
theorem dX5_replace_13 : decode cX5_replace 13 = .ok (.putfield 91, 3) := by decide +kernel
theorem dX5_replace_16 : decode cX5_replace 16 = .ok (.aload_n 0, 1) := by decide +kernel
theorem dX5_replace_17 : decode cX5_replace 17 = .ok (.iconst 0, 1) := by decide +kernel
theorem dX5_replace_18 : decode cX5_replace 18 = .ok (.putfield 55, 3) := by decide +kernel
theorem dX5_replace_21 : decode cX5_replace 21 = .ok (.aload_n 0, 1) := by decide +kernel
theorem dX5_replace_22 : decode cX5_replace 22 = .ok (.iconst 0, 1) := by decide +kernel
theorem dX5_replace_23 : decode cX5_replace 23 = .ok (.putfield 174, 3) := by decide +kernel
theorem dX5_replace_26 : decode cX5_replace 26 = .ok (.aload_n 0, 1) := by decide +kernel
theorem dX5_replace_27 : decode cX5_replace 27 = .ok (.invokevirtual 164, 3) := by decide +kernel
theorem dX5_replace_30 : decode cX5_replace 30 = .ok (.istore_n 2, 1) := by decide +kernel
theorem dX5_replace_31 : decode cX5_replace 31 = .ok (.iconst 0, 1) := by decide +kernel
theorem dX5_replace_32 : decode cX5_replace 32 = .ok (.istore_n 3, 1) := by decide +kernel
theorem dX5_replace_33 : decode cX5_replace 33 = .ok (.iconst 0, 1) := by decide +kernel
theorem dX5_replace_34 : decode cX5_replace 34 = .ok (.istore 4, 2) := by decide +kernel
theorem dX5_replace_36 : decode cX5_replace 36 = .ok (.iconst (-1), 1) := by decide +kernel
theorem dX5_replace_37 : decode cX5_replace 37 = .ok (.istore 5, 2) := by decide +kernel
theorem dX5_replace_39 : decode cX5_replace 39 = .ok (.iconst 1, 1) := by decide +kernel
theorem dX5_replace_40 : decode cX5_replace 40 = .ok (.istore 6, 2) := by decide +kernel
theorem dX5_replace_42 : decode cX5_replace 42 = .ok (.iload 6, 2) := by decide +kernel
theorem dX5_replace_44 : decode cX5_replace 44 = .ok (.ifCond .eq 135, 3) := by decide +kernel
theorem dX5_replace_47 : decode cX5_replace 47 = .ok (.iload_n 3, 1) := by decide +kernel
theorem dX5_replace_48 : decode cX5_replace 48 = .ok (.iload_n 1, 1) := by decide +kernel
theorem dX5_replace_49 : decode cX5_replace 49 = .ok (.if_icmp .ge 130, 3) := by decide +kernel
theorem dX5_replace_52 : decode cX5_replace 52 = .ok (.aload_n 0, 1) := by decide +kernel
theorem dX5_replace_53 : decode cX5_replace 53 = .ok (.getfield 91, 3) := by decide +kernel
theorem dX5_replace_56 : decode cX5_replace 56 = .ok (.ifCond .ne 123, 3) := by decide +kernel
theorem dX5_replace_59 : decode cX5_replace 59 = .ok (.aload_n 0, 1) := by decide +kernel
theorem dX5_replace_60 : decode cX5_replace 60 = .ok (.iload_n 2, 1) := by decide +kernel
theorem dX5_replace_61 : decode cX5_replace 61 = .ok (.ifCond .eq 7, 3) := by decide +kernel
theorem dX5_replace_64 : decode cX5_replace 64 = .ok (.iconst 1, 1) := by decide +kernel
theorem dX5_replace_65 : decode cX5_replace 65 = .ok (.goto 4, 3) := by decide +kernel
theorem dX5_replace_68 : decode cX5_replace 68 = .ok (.iconst 0, 1) := by decide +kernel
theorem dX5_replace_69 : decode cX5_replace 69 = .ok (.iload 4, 2) := by decide +kernel
theorem dX5_replace_71 : decode cX5_replace 71 = .ok (.invokevirtual 161, 3) := by decide +kernel
theorem dX5_replace_74 : decode cX5_replace 74 = .ok (.ifCond .eq 16, 3) := by decide +kernel
theorem dX5_replace_77 : decode cX5_replace 77 = .ok (.aload_n 0, 1) := by decide +kernel
theorem dX5_replace_78 : decode cX5_replace 78 = .ok (.getfield 146, 3) := by decide +kernel
theorem dX5_replace_81 : decode cX5_replace 81 = .ok (.iload 5, 2) := by decide +kernel
theorem dX5_replace_83 : decode cX5_replace 83 = .ok (.if_icmp .eq 7, 3) := by decide +kernel
theorem dX5_replace_86 : decode cX5_replace 86 = .ok (.iconst 1, 1) := by decide +kernel
theorem dX5_replace_87 : decode cX5_replace 87 = .ok (.goto 4, 3) := by decide +kernel
theorem dX5_replace_90 : decode cX5_replace 90 = .ok (.iconst 0, 1) := by decide +kernel
theorem dX5_replace_91 : decode cX5_replace 91 = .ok (.istore 7, 2) := by decide +kernel
theorem dX5_replace_93 : decode cX5_replace 93 = .ok (.iload 7, 2) := by decide +kernel
theorem dX5_replace_95 : decode cX5_replace 95 = .ok (.ifCond .eq 27, 3) := by decide +kernel
theorem dX5_replace_98 : decode cX5_replace 98 = .ok (.iinc 3 1, 3) := by decide +kernel
theorem dX5_replace_101 : decode cX5_replace 101 = .ok (.aload_n 0, 1) := by decide +kernel
theorem dX5_replace_102 : decode cX5_replace 102 = .ok (.iload 4, 2) := by decide +kernel
theorem dX5_replace_104 : decode cX5_replace 104 = .ok (.invokevirtual 190, 3) := by decide +kernel
theorem dX5_replace_107 : decode cX5_replace 107 = .ok (.aload_n 0, 1) := by decide +kernel
theorem dX5_replace_108 : decode cX5_replace 108 = .ok (.getfield 146, 3) := by decide +kernel
theorem dX5_replace_111 : decode cX5_replace 111 = .ok (.istore 4, 2) := by decide +kernel
theorem dX5_replace_113 : decode cX5_replace 113 = .ok (.aload_n 0, 1) := by decide +kernel
theorem dX5_replace_114 : decode cX5_replace 114 = .ok (.getfield 146, 3) := by decide +kernel
theorem dX5_replace_117 : decode cX5_replace 117 = .ok (.istore 5, 2) := by decide +kernel
theorem dX5_replace_119 : decode cX5_replace 119 = .ok (.goto 41, 3) := by decide +kernel
theorem dX5_replace_122 : decode cX5_replace 122 = .ok (.aload_n 0, 1) := by decide +kernel
theorem dX5_replace_123 : decode cX5_replace 123 = .ok (.getfield 91, 3) := by decide +kernel
theorem dX5_replace_126 : decode cX5_replace 126 = .ok (.ifCond .ne 31, 3) := by decide +kernel
theorem dX5_replace_129 : decode cX5_replace 129 = .ok (.iload 4, 2) := by decide +kernel
theorem dX5_replace_131 : decode cX5_replace 131 = .ok (.aload_n 0, 1) := by decide +kernel
theorem dX5_replace_132 : decode cX5_replace 132 = .ok (.getfield 13, 3) := by decide +kernel
theorem dX5_replace_135 : decode cX5_replace 135 = .ok (.iconst 0, 1) := by decide +kernel
theorem dX5_replace_136 : decode cX5_replace 136 = .ok (.iaload, 1) := by decide +kernel
theorem dX5_replace_137 : decode cX5_replace 137 = .ok (.if_icmp .ge 20, 3) := by decide +kernel
theorem dX5_replace_140 : decode cX5_replace 140 = .ok (.aload_n 0, 1) := by decide +kernel
theorem dX5_replace_141 : decode cX5_replace 141 = .ok (.aload_n 0, 1) := by decide +kernel
theorem dX5_replace_142 : decode cX5_replace 142 = .ok (.iconst 0, 1) := by decide +kernel
theorem dX5_replace_143 : decode cX5_replace 143 = .ok (.iload 4, 2) := by decide +kernel
theorem dX5_replace_145 : decode cX5_replace 145 = .ok (.invokevirtual 59, 3) := by decide +kernel
theorem dX5_replace_148 : decode cX5_replace 148 = .ok (.invokevirtual 177, 3) := by decide +kernel
theorem dX5_replace_151 : decode cX5_replace 151 = .ok (.iinc 4 1, 3) := by decide +kernel
theorem dX5_replace_154 : decode cX5_replace 154 = .ok (.goto 6, 3) := by decide +kernel
theorem dX5_replace_157 : decode cX5_replace 157 = .ok (.iconst 0, 1) := by decide +kernel
theorem dX5_replace_158 : decode cX5_replace 158 = .ok (.istore 6, 2) := by decide +kernel
theorem dX5_replace_160 : decode cX5_replace 160 = .ok (.iload 6, 2) := by decide +kernel
theorem dX5_replace_162 : decode cX5_replace 162 = .ok (.ifCond .eq 11, 3) := by decide +kernel
theorem dX5_replace_165 : decode cX5_replace 165 = .ok (.iload_n 2, 1) := by decide +kernel
theorem dX5_replace_166 : decode cX5_replace 166 = .ok (.ifCond .ne 7, 3) := by decide +kernel
theorem dX5_replace_169 : decode cX5_replace 169 = .ok (.iconst 1, 1) := by decide +kernel
theorem dX5_replace_170 : decode cX5_replace 170 = .ok (.goto 4, 3) := by decide +kernel
theorem dX5_replace_173 : decode cX5_replace 173 = .ok (.iconst 0, 1) := by decide +kernel
theorem dX5_replace_174 : decode cX5_replace 174 = .ok (.istore 6, 2) := by decide +kernel
theorem dX5_replace_176 : decode cX5_replace 176 = .ok (.goto (-134), 3) := by decide +kernel
theorem dX5_replace_179 : decode cX5_replace 179 = .ok (.aload_n 0, 1) := by decide +kernel
theorem dX5_replace_180 : decode cX5_replace 180 = .ok (.iload 4, 2) := by decide +kernel
theorem dX5_replace_182 : decode cX5_replace 182 = .ok (.aload_n 0, 1) := by decide +kernel
theorem dX5_replace_183 : decode cX5_replace 183 = .ok (.getfield 13, 3) := by decide +kernel
theorem dX5_replace_186 : decode cX5_replace 186 = .ok (.iconst 0, 1) := by decide +kernel
theorem dX5_replace_187 : decode cX5_replace 187 = .ok (.iaload, 1) := by decide +kernel
theorem dX5_replace_188 : decode cX5_replace 188 = .ok (.invokevirtual 180, 3) := by decide +kernel
theorem dX5_replace_191 : decode cX5_replace 191 = .ok (.aload_n 0, 1) := by decide +kernel
theorem dX5_replace_192 : decode cX5_replace 192 = .ok (.getfield 91, 3) := by decide +kernel
theorem dX5_replace_195 : decode cX5_replace 195 = .ok (.ifCond .eq 8, 3) := by decide +kernel
theorem dX5_replace_198 : decode cX5_replace 198 = .ok (.aload_n 0, 1) := by decide +kernel
theorem dX5_replace_199 : decode cX5_replace 199 = .ok (.iconst 0, 1) := by decide +kernel
theorem dX5_replace_200 : decode cX5_replace 200 = .ok (.putfield 174, 3) := by decide +kernel
theorem dX5_replace_203 : decode cX5_replace 203 = .ok (.aload_n 0, 1) := by decide +kernel
theorem dX5_replace_204 : decode cX5_replace 204 = .ok (.getfield 91, 3) := by decide +kernel
theorem dX5_replace_207 : decode cX5_replace 207 = .ok (.ifCond .eq 10, 3) := by decide +kernel
theorem dX5_replace_210 : decode cX5_replace 210 = .ok (.aload_n 0, 1) := by decide +kernel
theorem dX5_replace_211 : decode cX5_replace 211 = .ok (.getfield 91, 3) := by decide +kernel
theorem dX5_replace_214 : decode cX5_replace 214 = .ok (.goto 4, 3) := by decide +kernel
theorem dX5_replace_217 : decode cX5_replace 217 = .ok (.iload_n 3, 1) := by decide +kernel
theorem dX5_replace_218 : decode cX5_replace 218 = .ok (.ireturn, 1) := by decide +kernel
