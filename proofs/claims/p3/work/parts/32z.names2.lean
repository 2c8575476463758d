def kFuel : Nat := 1000000000
theorem kg_pos {c : Prop} [Decidable c] {a b : Prop} (h : c) (g : if c then a else b) : a := by rw [if_pos h] at g; exact g
theorem kg_neg {c : Prop} [Decidable c] {a b : Prop} (h : ¬ c) (g : if c then a else b) : b := by rw [if_neg h] at g; exact g
theorem kg_kb {α : Type} {a z : α} {g : α → Prop} (h : z = a) (hg : kb a g) : g z := by subst h; exact hg
theorem kg_in {α : Type} {a : α} {g : α → Prop} (h : ∀ z, z = a → g z) : kb a g := h a rfl
theorem kb_ex {α β : Type} {a : α} {g : α → β} {u : β} (h : u = kb a g) : ∃ z, z = a ∧ u = g z := ⟨a, rfl, h⟩
abbrev cX5_make : ByteArray := prog_7_method_37_code
abbrev yX5_make : MethodName := ⟨"TextPatternsModel", "make", "(I)V"⟩
abbrev wsX5_make : List Cond := .code yX5_make cX5_make 2 none :: WALL
abbrev cX5_makeAll : ByteArray := prog_7_method_38_code
abbrev yX5_makeAll : MethodName := ⟨"TextPatternsModel", "makeAll", "(II)V"⟩
abbrev wsX5_makeAll : List Cond := .code yX5_makeAll cX5_makeAll 4 none :: WALL
abbrev cX5_makeNumber : ByteArray := prog_7_method_39_code
abbrev yX5_makeNumber : MethodName := ⟨"TextPatternsModel", "makeNumber", "(I)V"⟩
abbrev wsX5_makeNumber : List Cond := .code yX5_makeNumber cX5_makeNumber 4 none :: WALL
abbrev cX5_balanced : ByteArray := prog_7_method_25_code
abbrev yX5_balanced : MethodName := ⟨"TextPatternsModel", "balanced", "(II)I"⟩
abbrev wsX5_balanced : List Cond := .code yX5_balanced cX5_balanced 6 (some .int) :: WALL
abbrev cX5_border : ByteArray := prog_7_method_26_code
abbrev yX5_border : MethodName := ⟨"TextPatternsModel", "border", "(II)I"⟩
abbrev wsX5_border : List Cond := .code yX5_border cX5_border 6 (some .int) :: WALL
theorem w_47 : (.selects "TextPatternsModel" ⟨"TextPatternsModel", "wrong", "()I"⟩ ⟨"TextPatternsModel", "wrong", "()I"⟩ : Cond) ∈ WALL := kw (i := 47) (by decide +kernel) (by decide +kernel)
theorem w_48 : (.selects "TextPatternsModel" ⟨"TextPatternsModel", "settle", "(III)I"⟩ ⟨"TextPatternsModel", "settle", "(III)I"⟩ : Cond) ∈ WALL := kw (i := 48) (by decide +kernel) (by decide +kernel)
theorem w_63 : (.selects "TextPatternsModel" ⟨"TextPatternsModel", "make", "(I)V"⟩ ⟨"TextPatternsModel", "make", "(I)V"⟩ : Cond) ∈ WALL := kw (i := 63) (by decide +kernel) (by decide +kernel)
theorem w_649 : (.methodLink "TextPatternsModel" 115 ⟨"TextPatternsModel", "wrong", "()I"⟩ : Cond) ∈ WALL := kw (i := 649) (by decide +kernel) (by decide +kernel)
theorem w_651 : (.instanceMethod ⟨"TextPatternsModel", "wrong", "()I"⟩ : Cond) ∈ WALL := kw (i := 651) (by decide +kernel) (by decide +kernel)
theorem w_653 : (.methodLink "TextPatternsModel" 118 ⟨"TextPatternsModel", "settle", "(III)I"⟩ : Cond) ∈ WALL := kw (i := 653) (by decide +kernel) (by decide +kernel)
theorem w_655 : (.instanceMethod ⟨"TextPatternsModel", "settle", "(III)I"⟩ : Cond) ∈ WALL := kw (i := 655) (by decide +kernel) (by decide +kernel)
theorem w_664 : (.code ⟨"TextPatternsModel", "balanced", "(II)I"⟩ prog_7_method_25_code 6 (some .int) : Cond) ∈ WALL := kw (i := 664) (by decide +kernel) (by decide +kernel)
theorem w_673 : (.code ⟨"TextPatternsModel", "border", "(II)I"⟩ prog_7_method_26_code 6 (some .int) : Cond) ∈ WALL := kw (i := 673) (by decide +kernel) (by decide +kernel)
theorem w_738 : (.methodLink "TextPatternsModel" 177 ⟨"TextPatternsModel", "make", "(I)V"⟩ : Cond) ∈ WALL := kw (i := 738) (by decide +kernel) (by decide +kernel)
theorem w_740 : (.instanceMethod ⟨"TextPatternsModel", "make", "(I)V"⟩ : Cond) ∈ WALL := kw (i := 740) (by decide +kernel) (by decide +kernel)
theorem w_741 : (.code ⟨"TextPatternsModel", "make", "(I)V"⟩ prog_7_method_37_code 2 none : Cond) ∈ WALL := kw (i := 741) (by decide +kernel) (by decide +kernel)
theorem w_749 : (.code ⟨"TextPatternsModel", "makeAll", "(II)V"⟩ prog_7_method_38_code 4 none : Cond) ∈ WALL := kw (i := 749) (by decide +kernel) (by decide +kernel)
theorem w_753 : (.code ⟨"TextPatternsModel", "makeNumber", "(I)V"⟩ prog_7_method_39_code 4 none : Cond) ∈ WALL := kw (i := 753) (by decide +kernel) (by decide +kernel)
theorem dX5_make_0 : decode cX5_make 0 = .ok (.aload_n 0, 1) := by decide +kernel
theorem dX5_make_1 : decode cX5_make 1 = .ok (.getfield 91, 3) := by decide +kernel
theorem dX5_make_4 : decode cX5_make 4 = .ok (.ifCond .eq 4, 3) := by decide +kernel
theorem dX5_make_7 : decode cX5_make 7 = .ok (.return_, 1) := by decide +kernel
theorem dX5_make_8 : decode cX5_make 8 = .ok (.aload_n 0, 1) := by decide +kernel
theorem dX5_make_9 : decode cX5_make 9 = .ok (.getfield 174, 3) := by decide +kernel
theorem dX5_make_12 : decode cX5_make 12 = .ok (.sipush 8192, 3) := by decide +kernel
theorem dX5_make_15 : decode cX5_make 15 = .ok (.if_icmp .ne 10, 3) := by decide +kernel
theorem dX5_make_18 : decode cX5_make 18 = .ok (.aload_n 0, 1) := by decide +kernel
theorem dX5_make_19 : decode cX5_make 19 = .ok (.bipush (-3), 2) := by decide +kernel
theorem dX5_make_21 : decode cX5_make 21 = .ok (.putfield 91, 3) := by decide +kernel
theorem dX5_make_24 : decode cX5_make 24 = .ok (.return_, 1) := by decide +kernel
theorem dX5_make_25 : decode cX5_make 25 = .ok (.aload_n 0, 1) := by decide +kernel
theorem dX5_make_26 : decode cX5_make 26 = .ok (.getfield 17, 3) := by decide +kernel
theorem dX5_make_29 : decode cX5_make 29 = .ok (.aload_n 0, 1) := by decide +kernel
theorem dX5_make_30 : decode cX5_make 30 = .ok (.getfield 174, 3) := by decide +kernel
theorem dX5_make_33 : decode cX5_make 33 = .ok (.iload_n 1, 1) := by decide +kernel
theorem dX5_make_34 : decode cX5_make 34 = .ok (.i2b, 1) := by decide +kernel
theorem dX5_make_35 : decode cX5_make 35 = .ok (.bastore, 1) := by decide +kernel
theorem dX5_make_36 : decode cX5_make 36 = .ok (.aload_n 0, 1) := by decide +kernel
theorem dX5_make_37 : decode cX5_make 37 = .ok (.dup, 1) := by decide +kernel
theorem dX5_make_38 : decode cX5_make 38 = .ok (.getfield 174, 3) := by decide +kernel
theorem dX5_make_41 : decode cX5_make 41 = .ok (.iconst 1, 1) := by decide +kernel
theorem dX5_make_42 : decode cX5_make 42 = .ok (.iadd, 1) := by decide +kernel
theorem dX5_make_43 : decode cX5_make 43 = .ok (.putfield 174, 3) := by decide +kernel
theorem dX5_make_46 : decode cX5_make 46 = .ok (.return_, 1) := by decide +kernel
theorem dX5_makeAll_0 : decode cX5_makeAll 0 = .ok (.iload_n 1, 1) := by decide +kernel
theorem dX5_makeAll_1 : decode cX5_makeAll 1 = .ok (.istore_n 3, 1) := by decide +kernel
theorem dX5_makeAll_2 : decode cX5_makeAll 2 = .ok (.iload_n 3, 1) := by decide +kernel
theorem dX5_makeAll_3 : decode cX5_makeAll 3 = .ok (.iload_n 2, 1) := by decide +kernel
theorem dX5_makeAll_4 : decode cX5_makeAll 4 = .ok (.if_icmp .ge 19, 3) := by decide +kernel
theorem dX5_makeAll_7 : decode cX5_makeAll 7 = .ok (.aload_n 0, 1) := by decide +kernel
theorem dX5_makeAll_8 : decode cX5_makeAll 8 = .ok (.aload_n 0, 1) := by decide +kernel
theorem dX5_makeAll_9 : decode cX5_makeAll 9 = .ok (.iconst 0, 1) := by decide +kernel
theorem dX5_makeAll_10 : decode cX5_makeAll 10 = .ok (.iload_n 3, 1) := by decide +kernel
theorem dX5_makeAll_11 : decode cX5_makeAll 11 = .ok (.invokevirtual 59, 3) := by decide +kernel
theorem dX5_makeAll_14 : decode cX5_makeAll 14 = .ok (.invokevirtual 177, 3) := by decide +kernel
theorem dX5_makeAll_17 : decode cX5_makeAll 17 = .ok (.iinc 3 1, 3) := by decide +kernel
theorem dX5_makeAll_20 : decode cX5_makeAll 20 = .ok (.goto (-18), 3) := by decide +kernel
theorem dX5_makeAll_23 : decode cX5_makeAll 23 = .ok (.return_, 1) := by decide +kernel
theorem dX5_makeNumber_0 : decode cX5_makeNumber 0 = .ok (.iconst 1, 1) := by decide +kernel
theorem dX5_makeNumber_1 : decode cX5_makeNumber 1 = .ok (.istore_n 2, 1) := by decide +kernel
theorem dX5_makeNumber_2 : decode cX5_makeNumber 2 = .ok (.iload_n 1, 1) := by decide +kernel
theorem dX5_makeNumber_3 : decode cX5_makeNumber 3 = .ok (.bipush 10, 2) := by decide +kernel
theorem dX5_makeNumber_5 : decode cX5_makeNumber 5 = .ok (.iload_n 2, 1) := by decide +kernel
theorem dX5_makeNumber_6 : decode cX5_makeNumber 6 = .ok (.imul, 1) := by decide +kernel
theorem dX5_makeNumber_7 : decode cX5_makeNumber 7 = .ok (.if_icmp .lt 11, 3) := by decide +kernel
theorem dX5_makeNumber_10 : decode cX5_makeNumber 10 = .ok (.bipush 10, 2) := by decide +kernel
theorem dX5_makeNumber_12 : decode cX5_makeNumber 12 = .ok (.iload_n 2, 1) := by decide +kernel
theorem dX5_makeNumber_13 : decode cX5_makeNumber 13 = .ok (.imul, 1) := by decide +kernel
theorem dX5_makeNumber_14 : decode cX5_makeNumber 14 = .ok (.istore_n 2, 1) := by decide +kernel
theorem dX5_makeNumber_15 : decode cX5_makeNumber 15 = .ok (.goto (-13), 3) := by decide +kernel
theorem dX5_makeNumber_18 : decode cX5_makeNumber 18 = .ok (.iload_n 2, 1) := by decide +kernel
theorem dX5_makeNumber_19 : decode cX5_makeNumber 19 = .ok (.istore_n 3, 1) := by decide +kernel
theorem dX5_makeNumber_20 : decode cX5_makeNumber 20 = .ok (.iload_n 3, 1) := by decide +kernel
theorem dX5_makeNumber_21 : decode cX5_makeNumber 21 = .ok (.ifCond .le 24, 3) := by decide +kernel
theorem dX5_makeNumber_24 : decode cX5_makeNumber 24 = .ok (.aload_n 0, 1) := by decide +kernel
theorem dX5_makeNumber_25 : decode cX5_makeNumber 25 = .ok (.bipush 48, 2) := by decide +kernel
theorem dX5_makeNumber_27 : decode cX5_makeNumber 27 = .ok (.iload_n 1, 1) := by decide +kernel
theorem dX5_makeNumber_28 : decode cX5_makeNumber 28 = .ok (.iload_n 3, 1) := by decide +kernel
theorem dX5_makeNumber_29 : decode cX5_makeNumber 29 = .ok (.idiv, 1) := by decide +kernel
theorem dX5_makeNumber_30 : decode cX5_makeNumber 30 = .ok (.bipush 10, 2) := by decide +kernel
theorem dX5_makeNumber_32 : decode cX5_makeNumber 32 = .ok (.irem, 1) := by decide +kernel
theorem dX5_makeNumber_33 : decode cX5_makeNumber 33 = .ok (.iadd, 1) := by decide +kernel
theorem dX5_makeNumber_34 : decode cX5_makeNumber 34 = .ok (.invokevirtual 177, 3) := by decide +kernel
theorem dX5_makeNumber_37 : decode cX5_makeNumber 37 = .ok (.iload_n 3, 1) := by decide +kernel
theorem dX5_makeNumber_38 : decode cX5_makeNumber 38 = .ok (.bipush 10, 2) := by decide +kernel
theorem dX5_makeNumber_40 : decode cX5_makeNumber 40 = .ok (.idiv, 1) := by decide +kernel
theorem dX5_makeNumber_41 : decode cX5_makeNumber 41 = .ok (.istore_n 3, 1) := by decide +kernel
theorem dX5_makeNumber_42 : decode cX5_makeNumber 42 = .ok (.goto (-22), 3) := by decide +kernel
theorem dX5_makeNumber_45 : decode cX5_makeNumber 45 = .ok (.return_, 1) := by decide +kernel
theorem dX5_balanced_0 : decode cX5_balanced 0 = .ok (.aload_n 0, 1) := by decide +kernel
theorem dX5_balanced_1 : decode cX5_balanced 1 = .ok (.iload_n 1, 1) := by decide +kernel
theorem dX5_balanced_2 : decode cX5_balanced 2 = .ok (.iconst 3, 1) := by decide +kernel
theorem dX5_balanced_3 : decode cX5_balanced 3 = .ok (.iadd, 1) := by decide +kernel
theorem dX5_balanced_4 : decode cX5_balanced 4 = .ok (.invokevirtual 74, 3) := by decide +kernel
theorem dX5_balanced_7 : decode cX5_balanced 7 = .ok (.ifCond .ge 8, 3) := by decide +kernel
theorem dX5_balanced_10 : decode cX5_balanced 10 = .ok (.aload_n 0, 1) := by decide +kernel
theorem dX5_balanced_11 : decode cX5_balanced 11 = .ok (.invokevirtual 115, 3) := by decide +kernel
theorem dX5_balanced_14 : decode cX5_balanced 14 = .ok (.ireturn, 1) := by decide +kernel
theorem dX5_balanced_15 : decode cX5_balanced 15 = .ok (.iconst 0, 1) := by decide +kernel
theorem dX5_balanced_16 : decode cX5_balanced 16 = .ok (.istore_n 3, 1) := by decide +kernel
theorem dX5_balanced_17 : decode cX5_balanced 17 = .ok (.iload_n 2, 1) := by decide +kernel
theorem dX5_balanced_18 : decode cX5_balanced 18 = .ok (.istore 4, 2) := by decide +kernel
theorem dX5_balanced_20 : decode cX5_balanced 20 = .ok (.iload 4, 2) := by decide +kernel
theorem dX5_balanced_22 : decode cX5_balanced 22 = .ok (.aload_n 0, 1) := by decide +kernel
theorem dX5_balanced_23 : decode cX5_balanced 23 = .ok (.getfield 13, 3) := by decide +kernel
theorem dX5_balanced_26 : decode cX5_balanced 26 = .ok (.iconst 0, 1) := by decide +kernel
theorem dX5_balanced_27 : decode cX5_balanced 27 = .ok (.iaload, 1) := by decide +kernel
theorem dX5_balanced_28 : decode cX5_balanced 28 = .ok (.if_icmp .ge 104, 3) := by decide +kernel
theorem dX5_balanced_31 : decode cX5_balanced 31 = .ok (.aload_n 0, 1) := by decide +kernel
theorem dX5_balanced_32 : decode cX5_balanced 32 = .ok (.invokevirtual 94, 3) := by decide +kernel
theorem dX5_balanced_35 : decode cX5_balanced 35 = .ok (.ifCond .ne 5, 3) := by decide +kernel
theorem dX5_balanced_38 : decode cX5_balanced 38 = .ok (.iconst (-1), 1) := by decide +kernel
theorem dX5_balanced_39 : decode cX5_balanced 39 = .ok (.ireturn, 1) := by decide +kernel
theorem dX5_balanced_40 : decode cX5_balanced 40 = .ok (.aload_n 0, 1) := by decide +kernel
theorem dX5_balanced_41 : decode cX5_balanced 41 = .ok (.iconst 0, 1) := by decide +kernel
theorem dX5_balanced_42 : decode cX5_balanced 42 = .ok (.iload 4, 2) := by decide +kernel
theorem dX5_balanced_44 : decode cX5_balanced 44 = .ok (.invokevirtual 59, 3) := by decide +kernel
theorem dX5_balanced_47 : decode cX5_balanced 47 = .ok (.istore 5, 2) := by decide +kernel
theorem dX5_balanced_49 : decode cX5_balanced 49 = .ok (.iload 4, 2) := by decide +kernel
theorem dX5_balanced_51 : decode cX5_balanced 51 = .ok (.iload_n 2, 1) := by decide +kernel
theorem dX5_balanced_52 : decode cX5_balanced 52 = .ok (.if_icmp .ne 17, 3) := by decide +kernel
theorem dX5_balanced_55 : decode cX5_balanced 55 = .ok (.iload 5, 2) := by decide +kernel
theorem dX5_balanced_57 : decode cX5_balanced 57 = .ok (.aload_n 0, 1) := by decide +kernel
theorem dX5_balanced_58 : decode cX5_balanced 58 = .ok (.iload_n 1, 1) := by decide +kernel
theorem dX5_balanced_59 : decode cX5_balanced 59 = .ok (.iconst 2, 1) := by decide +kernel
theorem dX5_balanced_60 : decode cX5_balanced 60 = .ok (.iadd, 1) := by decide +kernel
theorem dX5_balanced_61 : decode cX5_balanced 61 = .ok (.invokevirtual 74, 3) := by decide +kernel
theorem dX5_balanced_64 : decode cX5_balanced 64 = .ok (.if_icmp .eq 5, 3) := by decide +kernel
theorem dX5_balanced_67 : decode cX5_balanced 67 = .ok (.iconst (-1), 1) := by decide +kernel
theorem dX5_balanced_68 : decode cX5_balanced 68 = .ok (.ireturn, 1) := by decide +kernel
theorem dX5_balanced_69 : decode cX5_balanced 69 = .ok (.iload 4, 2) := by decide +kernel
theorem dX5_balanced_71 : decode cX5_balanced 71 = .ok (.iload_n 2, 1) := by decide +kernel
theorem dX5_balanced_72 : decode cX5_balanced 72 = .ok (.if_icmp .le 21, 3) := by decide +kernel
theorem dX5_balanced_75 : decode cX5_balanced 75 = .ok (.iload 5, 2) := by decide +kernel
theorem dX5_balanced_77 : decode cX5_balanced 77 = .ok (.aload_n 0, 1) := by decide +kernel
theorem dX5_balanced_78 : decode cX5_balanced 78 = .ok (.iload_n 1, 1) := by decide +kernel
theorem dX5_balanced_79 : decode cX5_balanced 79 = .ok (.iconst 3, 1) := by decide +kernel
theorem dX5_balanced_80 : decode cX5_balanced 80 = .ok (.iadd, 1) := by decide +kernel
theorem dX5_balanced_81 : decode cX5_balanced 81 = .ok (.invokevirtual 74, 3) := by decide +kernel
theorem dX5_balanced_84 : decode cX5_balanced 84 = .ok (.if_icmp .ne 9, 3) := by decide +kernel
theorem dX5_balanced_87 : decode cX5_balanced 87 = .ok (.iinc 3 (-1), 3) := by decide +kernel
theorem dX5_balanced_90 : decode cX5_balanced 90 = .ok (.goto 18, 3) := by decide +kernel
theorem dX5_balanced_93 : decode cX5_balanced 93 = .ok (.iload 5, 2) := by decide +kernel
theorem dX5_balanced_95 : decode cX5_balanced 95 = .ok (.aload_n 0, 1) := by decide +kernel
theorem dX5_balanced_96 : decode cX5_balanced 96 = .ok (.iload_n 1, 1) := by decide +kernel
theorem dX5_balanced_97 : decode cX5_balanced 97 = .ok (.iconst 2, 1) := by decide +kernel
theorem dX5_balanced_98 : decode cX5_balanced 98 = .ok (.iadd, 1) := by decide +kernel
theorem dX5_balanced_99 : decode cX5_balanced 99 = .ok (.invokevirtual 74, 3) := by decide +kernel
theorem dX5_balanced_102 : decode cX5_balanced 102 = .ok (.if_icmp .ne 6, 3) := by decide +kernel
theorem dX5_balanced_105 : decode cX5_balanced 105 = .ok (.iinc 3 1, 3) := by decide +kernel
theorem dX5_balanced_108 : decode cX5_balanced 108 = .ok (.iload_n 3, 1) := by decide +kernel
theorem dX5_balanced_109 : decode cX5_balanced 109 = .ok (.ifCond .ne 17, 3) := by decide +kernel
theorem dX5_balanced_112 : decode cX5_balanced 112 = .ok (.aload_n 0, 1) := by decide +kernel
theorem dX5_balanced_113 : decode cX5_balanced 113 = .ok (.bipush 7, 2) := by decide +kernel
theorem dX5_balanced_115 : decode cX5_balanced 115 = .ok (.iload_n 1, 1) := by decide +kernel
theorem dX5_balanced_116 : decode cX5_balanced 116 = .ok (.iconst 4, 1) := by decide +kernel
theorem dX5_balanced_117 : decode cX5_balanced 117 = .ok (.iadd, 1) := by decide +kernel
theorem dX5_balanced_118 : decode cX5_balanced 118 = .ok (.iload 4, 2) := by decide +kernel
theorem dX5_balanced_120 : decode cX5_balanced 120 = .ok (.iconst 1, 1) := by decide +kernel
theorem dX5_balanced_121 : decode cX5_balanced 121 = .ok (.iadd, 1) := by decide +kernel
theorem dX5_balanced_122 : decode cX5_balanced 122 = .ok (.invokevirtual 118, 3) := by decide +kernel
theorem dX5_balanced_125 : decode cX5_balanced 125 = .ok (.ireturn, 1) := by decide +kernel
theorem dX5_balanced_126 : decode cX5_balanced 126 = .ok (.iinc 4 1, 3) := by decide +kernel
theorem dX5_balanced_129 : decode cX5_balanced 129 = .ok (.goto (-109), 3) := by decide +kernel
theorem dX5_balanced_132 : decode cX5_balanced 132 = .ok (.iconst (-1), 1) := by decide +kernel
theorem dX5_balanced_133 : decode cX5_balanced 133 = .ok (.ireturn, 1) := by decide +kernel
theorem dX5_border_0 : decode cX5_border 0 = .ok (.aload_n 0, 1) := by decide +kernel
theorem dX5_border_1 : decode cX5_border 1 = .ok (.iload_n 1, 1) := by decide +kernel
theorem dX5_border_2 : decode cX5_border 2 = .ok (.iconst 2, 1) := by decide +kernel
theorem dX5_border_3 : decode cX5_border 3 = .ok (.iadd, 1) := by decide +kernel
theorem dX5_border_4 : decode cX5_border 4 = .ok (.invokevirtual 74, 3) := by decide +kernel
theorem dX5_border_7 : decode cX5_border 7 = .ok (.bipush 91, 2) := by decide +kernel
theorem dX5_border_9 : decode cX5_border 9 = .ok (.if_icmp .ne 13, 3) := by decide +kernel
theorem dX5_border_12 : decode cX5_border 12 = .ok (.aload_n 0, 1) := by decide +kernel
theorem dX5_border_13 : decode cX5_border 13 = .ok (.iload_n 1, 1) := by decide +kernel
theorem dX5_border_14 : decode cX5_border 14 = .ok (.iconst 2, 1) := by decide +kernel
theorem dX5_border_15 : decode cX5_border 15 = .ok (.iadd, 1) := by decide +kernel
theorem dX5_border_16 : decode cX5_border 16 = .ok (.invokevirtual 81, 3) := by decide +kernel
theorem dX5_border_19 : decode cX5_border 19 = .ok (.ifCond .ge 8, 3) := by decide +kernel
theorem dX5_border_22 : decode cX5_border 22 = .ok (.aload_n 0, 1) := by decide +kernel
theorem dX5_border_23 : decode cX5_border 23 = .ok (.invokevirtual 115, 3) := by decide +kernel
theorem dX5_border_26 : decode cX5_border 26 = .ok (.ireturn, 1) := by decide +kernel
theorem dX5_border_27 : decode cX5_border 27 = .ok (.aload_n 0, 1) := by decide +kernel
theorem dX5_border_28 : decode cX5_border 28 = .ok (.invokevirtual 94, 3) := by decide +kernel
theorem dX5_border_31 : decode cX5_border 31 = .ok (.ifCond .ne 5, 3) := by decide +kernel
theorem dX5_border_34 : decode cX5_border 34 = .ok (.iconst (-1), 1) := by decide +kernel
theorem dX5_border_35 : decode cX5_border 35 = .ok (.ireturn, 1) := by decide +kernel
theorem dX5_border_36 : decode cX5_border 36 = .ok (.aload_n 0, 1) := by decide +kernel
theorem dX5_border_37 : decode cX5_border 37 = .ok (.iload_n 1, 1) := by decide +kernel
theorem dX5_border_38 : decode cX5_border 38 = .ok (.iconst 2, 1) := by decide +kernel
theorem dX5_border_39 : decode cX5_border 39 = .ok (.iadd, 1) := by decide +kernel
theorem dX5_border_40 : decode cX5_border 40 = .ok (.invokevirtual 81, 3) := by decide +kernel
theorem dX5_border_43 : decode cX5_border 43 = .ok (.istore_n 3, 1) := by decide +kernel
theorem dX5_border_44 : decode cX5_border 44 = .ok (.iload_n 2, 1) := by decide +kernel
theorem dX5_border_45 : decode cX5_border 45 = .ok (.ifCond .ne 7, 3) := by decide +kernel
theorem dX5_border_48 : decode cX5_border 48 = .ok (.iconst 0, 1) := by decide +kernel
theorem dX5_border_49 : decode cX5_border 49 = .ok (.goto 11, 3) := by decide +kernel
theorem dX5_border_52 : decode cX5_border 52 = .ok (.aload_n 0, 1) := by decide +kernel
theorem dX5_border_53 : decode cX5_border 53 = .ok (.iconst 0, 1) := by decide +kernel
theorem dX5_border_54 : decode cX5_border 54 = .ok (.iload_n 2, 1) := by decide +kernel
theorem dX5_border_55 : decode cX5_border 55 = .ok (.iconst 1, 1) := by decide +kernel
theorem dX5_border_56 : decode cX5_border 56 = .ok (.isub, 1) := by decide +kernel
theorem dX5_border_57 : decode cX5_border 57 = .ok (.invokevirtual 59, 3) := by decide +kernel
theorem dX5_border_60 : decode cX5_border 60 = .ok (.istore 4, 2) := by decide +kernel
theorem dX5_border_62 : decode cX5_border 62 = .ok (.iload_n 2, 1) := by decide +kernel
theorem dX5_border_63 : decode cX5_border 63 = .ok (.aload_n 0, 1) := by decide +kernel
theorem dX5_border_64 : decode cX5_border 64 = .ok (.getfield 13, 3) := by decide +kernel
theorem dX5_border_67 : decode cX5_border 67 = .ok (.iconst 0, 1) := by decide +kernel
theorem dX5_border_68 : decode cX5_border 68 = .ok (.iaload, 1) := by decide +kernel
theorem dX5_border_69 : decode cX5_border 69 = .ok (.if_icmp .ge 12, 3) := by decide +kernel
theorem dX5_border_72 : decode cX5_border 72 = .ok (.aload_n 0, 1) := by decide +kernel
theorem dX5_border_73 : decode cX5_border 73 = .ok (.iconst 0, 1) := by decide +kernel
theorem dX5_border_74 : decode cX5_border 74 = .ok (.iload_n 2, 1) := by decide +kernel
theorem dX5_border_75 : decode cX5_border 75 = .ok (.invokevirtual 59, 3) := by decide +kernel
theorem dX5_border_78 : decode cX5_border 78 = .ok (.goto 4, 3) := by decide +kernel
theorem dX5_border_81 : decode cX5_border 81 = .ok (.iconst 0, 1) := by decide +kernel
theorem dX5_border_82 : decode cX5_border 82 = .ok (.istore 5, 2) := by decide +kernel
theorem dX5_border_84 : decode cX5_border 84 = .ok (.aload_n 0, 1) := by decide +kernel
theorem dX5_border_85 : decode cX5_border 85 = .ok (.iload_n 1, 1) := by decide +kernel
theorem dX5_border_86 : decode cX5_border 86 = .ok (.iconst 2, 1) := by decide +kernel
theorem dX5_border_87 : decode cX5_border 87 = .ok (.iadd, 1) := by decide +kernel
theorem dX5_border_88 : decode cX5_border 88 = .ok (.iload_n 3, 1) := by decide +kernel
theorem dX5_border_89 : decode cX5_border 89 = .ok (.iload 4, 2) := by decide +kernel
theorem dX5_border_91 : decode cX5_border 91 = .ok (.invokevirtual 84, 3) := by decide +kernel
theorem dX5_border_94 : decode cX5_border 94 = .ok (.ifCond .ne 29, 3) := by decide +kernel
theorem dX5_border_97 : decode cX5_border 97 = .ok (.aload_n 0, 1) := by decide +kernel
theorem dX5_border_98 : decode cX5_border 98 = .ok (.iload_n 1, 1) := by decide +kernel
theorem dX5_border_99 : decode cX5_border 99 = .ok (.iconst 2, 1) := by decide +kernel
theorem dX5_border_100 : decode cX5_border 100 = .ok (.iadd, 1) := by decide +kernel
theorem dX5_border_101 : decode cX5_border 101 = .ok (.iload_n 3, 1) := by decide +kernel
theorem dX5_border_102 : decode cX5_border 102 = .ok (.iload 5, 2) := by decide +kernel
theorem dX5_border_104 : decode cX5_border 104 = .ok (.invokevirtual 84, 3) := by decide +kernel
theorem dX5_border_107 : decode cX5_border 107 = .ok (.ifCond .eq 16, 3) := by decide +kernel
theorem dX5_border_110 : decode cX5_border 110 = .ok (.aload_n 0, 1) := by decide +kernel
theorem dX5_border_111 : decode cX5_border 111 = .ok (.bipush 7, 2) := by decide +kernel
theorem dX5_border_113 : decode cX5_border 113 = .ok (.iload_n 3, 1) := by decide +kernel
theorem dX5_border_114 : decode cX5_border 114 = .ok (.iconst 1, 1) := by decide +kernel
theorem dX5_border_115 : decode cX5_border 115 = .ok (.iadd, 1) := by decide +kernel
theorem dX5_border_116 : decode cX5_border 116 = .ok (.iload_n 2, 1) := by decide +kernel
theorem dX5_border_117 : decode cX5_border 117 = .ok (.invokevirtual 118, 3) := by decide +kernel
theorem dX5_border_120 : decode cX5_border 120 = .ok (.goto 4, 3) := by decide +kernel
theorem dX5_border_123 : decode cX5_border 123 = .ok (.iconst (-1), 1) := by decide +kernel
theorem dX5_border_124 : decode cX5_border 124 = .ok (.ireturn, 1) := by decide +kernel
