theorem dX1_spanBits_0 : decode cX1_spanBits 0 = .ok (.iload_n 2, 1) := by decide +kernel
theorem dX1_spanBits_1 : decode cX1_spanBits 1 = .ok (.bipush 64, 2) := by decide +kernel
theorem dX1_spanBits_3 : decode cX1_spanBits 3 = .ok (.imul, 1) := by decide +kernel
theorem dX1_spanBits_4 : decode cX1_spanBits 4 = .ok (.istore_n 3, 1) := by decide +kernel
theorem dX1_spanBits_5 : decode cX1_spanBits 5 = .ok (.iload_n 0, 1) := by decide +kernel
theorem dX1_spanBits_6 : decode cX1_spanBits 6 = .ok (.iload_n 3, 1) := by decide +kernel
theorem dX1_spanBits_7 : decode cX1_spanBits 7 = .ok (.if_icmp .le 9, 3) := by decide +kernel
theorem dX1_spanBits_10 : decode cX1_spanBits 10 = .ok (.iload_n 0, 1) := by decide +kernel
theorem dX1_spanBits_11 : decode cX1_spanBits 11 = .ok (.iload_n 3, 1) := by decide +kernel
theorem dX1_spanBits_12 : decode cX1_spanBits 12 = .ok (.isub, 1) := by decide +kernel
theorem dX1_spanBits_13 : decode cX1_spanBits 13 = .ok (.goto 4, 3) := by decide +kernel
theorem dX1_spanBits_16 : decode cX1_spanBits 16 = .ok (.iconst 0, 1) := by decide +kernel
theorem dX1_spanBits_17 : decode cX1_spanBits 17 = .ok (.istore 4, 2) := by decide +kernel
theorem dX1_spanBits_19 : decode cX1_spanBits 19 = .ok (.iload_n 1, 1) := by decide +kernel
theorem dX1_spanBits_20 : decode cX1_spanBits 20 = .ok (.iload_n 3, 1) := by decide +kernel
theorem dX1_spanBits_21 : decode cX1_spanBits 21 = .ok (.bipush 64, 2) := by decide +kernel
theorem dX1_spanBits_23 : decode cX1_spanBits 23 = .ok (.iadd, 1) := by decide +kernel
theorem dX1_spanBits_24 : decode cX1_spanBits 24 = .ok (.if_icmp .ge 9, 3) := by decide +kernel
theorem dX1_spanBits_27 : decode cX1_spanBits 27 = .ok (.iload_n 1, 1) := by decide +kernel
theorem dX1_spanBits_28 : decode cX1_spanBits 28 = .ok (.iload_n 3, 1) := by decide +kernel
theorem dX1_spanBits_29 : decode cX1_spanBits 29 = .ok (.isub, 1) := by decide +kernel
theorem dX1_spanBits_30 : decode cX1_spanBits 30 = .ok (.goto 5, 3) := by decide +kernel
theorem dX1_spanBits_33 : decode cX1_spanBits 33 = .ok (.bipush 63, 2) := by decide +kernel
theorem dX1_spanBits_35 : decode cX1_spanBits 35 = .ok (.istore 5, 2) := by decide +kernel
theorem dX1_spanBits_37 : decode cX1_spanBits 37 = .ok (.iload 4, 2) := by decide +kernel
theorem dX1_spanBits_39 : decode cX1_spanBits 39 = .ok (.iload 5, 2) := by decide +kernel
theorem dX1_spanBits_41 : decode cX1_spanBits 41 = .ok (.if_icmp .le 5, 3) := by decide +kernel
theorem dX1_spanBits_44 : decode cX1_spanBits 44 = .ok (.lconst 0, 1) := by decide +kernel
theorem dX1_spanBits_45 : decode cX1_spanBits 45 = .ok (.lreturn, 1) := by decide +kernel
theorem dX1_spanBits_46 : decode cX1_spanBits 46 = .ok (.ldc2_w 66, 3) := by decide +kernel
theorem dX1_spanBits_49 : decode cX1_spanBits 49 = .ok (.bipush 63, 2) := by decide +kernel
theorem dX1_spanBits_51 : decode cX1_spanBits 51 = .ok (.iload 5, 2) := by decide +kernel
theorem dX1_spanBits_53 : decode cX1_spanBits 53 = .ok (.isub, 1) := by decide +kernel
theorem dX1_spanBits_54 : decode cX1_spanBits 54 = .ok (.iload 4, 2) := by decide +kernel
theorem dX1_spanBits_56 : decode cX1_spanBits 56 = .ok (.iadd, 1) := by decide +kernel
theorem dX1_spanBits_57 : decode cX1_spanBits 57 = .ok (.lushr, 1) := by decide +kernel
theorem dX1_spanBits_58 : decode cX1_spanBits 58 = .ok (.iload 4, 2) := by decide +kernel
theorem dX1_spanBits_60 : decode cX1_spanBits 60 = .ok (.lshl, 1) := by decide +kernel
theorem dX1_spanBits_61 : decode cX1_spanBits 61 = .ok (.lreturn, 1) := by decide +kernel
theorem dX1_holds_0 : decode cX1_holds 0 = .ok (.iconst 4, 1) := by decide +kernel
theorem dX1_holds_1 : decode cX1_holds 1 = .ok (.iload_n 1, 1) := by decide +kernel
theorem dX1_holds_2 : decode cX1_holds 2 = .ok (.imul, 1) := by decide +kernel
theorem dX1_holds_3 : decode cX1_holds 3 = .ok (.iload_n 2, 1) := by decide +kernel
theorem dX1_holds_4 : decode cX1_holds 4 = .ok (.bipush 64, 2) := by decide +kernel
theorem dX1_holds_6 : decode cX1_holds 6 = .ok (.idiv, 1) := by decide +kernel
theorem dX1_holds_7 : decode cX1_holds 7 = .ok (.iadd, 1) := by decide +kernel
theorem dX1_holds_8 : decode cX1_holds 8 = .ok (.istore_n 3, 1) := by decide +kernel
theorem dX1_holds_9 : decode cX1_holds 9 = .ok (.iload_n 2, 1) := by decide +kernel
theorem dX1_holds_10 : decode cX1_holds 10 = .ok (.ifCond .lt 23, 3) := by decide +kernel
theorem dX1_holds_13 : decode cX1_holds 13 = .ok (.iload_n 2, 1) := by decide +kernel
theorem dX1_holds_14 : decode cX1_holds 14 = .ok (.sipush 255, 3) := by decide +kernel
theorem dX1_holds_17 : decode cX1_holds 17 = .ok (.if_icmp .gt 16, 3) := by decide +kernel
theorem dX1_holds_20 : decode cX1_holds 20 = .ok (.iload_n 3, 1) := by decide +kernel
theorem dX1_holds_21 : decode cX1_holds 21 = .ok (.ifCond .lt 12, 3) := by decide +kernel
theorem dX1_holds_24 : decode cX1_holds 24 = .ok (.iload_n 3, 1) := by decide +kernel
theorem dX1_holds_25 : decode cX1_holds 25 = .ok (.aload_n 0, 1) := by decide +kernel
theorem dX1_holds_26 : decode cX1_holds 26 = .ok (.getfield 15, 3) := by decide +kernel
theorem dX1_holds_29 : decode cX1_holds 29 = .ok (.arraylength, 1) := by decide +kernel
theorem dX1_holds_30 : decode cX1_holds 30 = .ok (.if_icmp .lt 5, 3) := by decide +kernel
theorem dX1_holds_33 : decode cX1_holds 33 = .ok (.iconst 0, 1) := by decide +kernel
theorem dX1_holds_34 : decode cX1_holds 34 = .ok (.ireturn, 1) := by decide +kernel
theorem dX1_holds_35 : decode cX1_holds 35 = .ok (.aload_n 0, 1) := by decide +kernel
theorem dX1_holds_36 : decode cX1_holds 36 = .ok (.getfield 15, 3) := by decide +kernel
theorem dX1_holds_39 : decode cX1_holds 39 = .ok (.iload_n 3, 1) := by decide +kernel
theorem dX1_holds_40 : decode cX1_holds 40 = .ok (.laload, 1) := by decide +kernel
theorem dX1_holds_41 : decode cX1_holds 41 = .ok (.iload_n 2, 1) := by decide +kernel
theorem dX1_holds_42 : decode cX1_holds 42 = .ok (.bipush 64, 2) := by decide +kernel
theorem dX1_holds_44 : decode cX1_holds 44 = .ok (.irem, 1) := by decide +kernel
theorem dX1_holds_45 : decode cX1_holds 45 = .ok (.lushr, 1) := by decide +kernel
theorem dX1_holds_46 : decode cX1_holds 46 = .ok (.lconst 1, 1) := by decide +kernel
theorem dX1_holds_47 : decode cX1_holds 47 = .ok (.land, 1) := by decide +kernel
theorem dX1_holds_48 : decode cX1_holds 48 = .ok (.lconst 0, 1) := by decide +kernel
theorem dX1_holds_49 : decode cX1_holds 49 = .ok (.lcmp, 1) := by decide +kernel
theorem dX1_holds_50 : decode cX1_holds 50 = .ok (.ifCond .eq 7, 3) := by decide +kernel
theorem dX1_holds_53 : decode cX1_holds 53 = .ok (.iconst 1, 1) := by decide +kernel
theorem dX1_holds_54 : decode cX1_holds 54 = .ok (.goto 4, 3) := by decide +kernel
theorem dX1_holds_57 : decode cX1_holds 57 = .ok (.iconst 0, 1) := by decide +kernel
theorem dX1_holds_58 : decode cX1_holds 58 = .ok (.ireturn, 1) := by decide +kernel
theorem dX1_addBits_0 : decode cX1_addBits 0 = .ok (.iconst 4, 1) := by decide +kernel
theorem dX1_addBits_1 : decode cX1_addBits 1 = .ok (.iload_n 1, 1) := by decide +kernel
theorem dX1_addBits_2 : decode cX1_addBits 2 = .ok (.imul, 1) := by decide +kernel
theorem dX1_addBits_3 : decode cX1_addBits 3 = .ok (.iload_n 2, 1) := by decide +kernel
theorem dX1_addBits_4 : decode cX1_addBits 4 = .ok (.iadd, 1) := by decide +kernel
theorem dX1_addBits_5 : decode cX1_addBits 5 = .ok (.istore 5, 2) := by decide +kernel
theorem dX1_addBits_7 : decode cX1_addBits 7 = .ok (.iload 5, 2) := by decide +kernel
theorem dX1_addBits_9 : decode cX1_addBits 9 = .ok (.ifCond .lt 24, 3) := by decide +kernel
theorem dX1_addBits_12 : decode cX1_addBits 12 = .ok (.iload 5, 2) := by decide +kernel
theorem dX1_addBits_14 : decode cX1_addBits 14 = .ok (.aload_n 0, 1) := by decide +kernel
theorem dX1_addBits_15 : decode cX1_addBits 15 = .ok (.getfield 15, 3) := by decide +kernel
theorem dX1_addBits_18 : decode cX1_addBits 18 = .ok (.arraylength, 1) := by decide +kernel
theorem dX1_addBits_19 : decode cX1_addBits 19 = .ok (.if_icmp .ge 14, 3) := by decide +kernel
theorem dX1_addBits_22 : decode cX1_addBits 22 = .ok (.aload_n 0, 1) := by decide +kernel
theorem dX1_addBits_23 : decode cX1_addBits 23 = .ok (.getfield 15, 3) := by decide +kernel
theorem dX1_addBits_26 : decode cX1_addBits 26 = .ok (.iload 5, 2) := by decide +kernel
theorem dX1_addBits_28 : decode cX1_addBits 28 = .ok (.dup2, 1) := by decide +kernel
theorem dX1_addBits_29 : decode cX1_addBits 29 = .ok (.laload, 1) := by decide +kernel
theorem dX1_addBits_30 : decode cX1_addBits 30 = .ok (.lload_n 3, 1) := by decide +kernel
theorem dX1_addBits_31 : decode cX1_addBits 31 = .ok (.lor, 1) := by decide +kernel
theorem dX1_addBits_32 : decode cX1_addBits 32 = .ok (.lastore, 1) := by decide +kernel
theorem dX1_addBits_33 : decode cX1_addBits 33 = .ok (.return_, 1) := by decide +kernel
theorem dX1_empty_0 : decode cX1_empty 0 = .ok (.iconst 0, 1) := by decide +kernel
theorem dX1_empty_1 : decode cX1_empty 1 = .ok (.istore_n 2, 1) := by decide +kernel
theorem dX1_empty_2 : decode cX1_empty 2 = .ok (.iload_n 2, 1) := by decide +kernel
theorem dX1_empty_3 : decode cX1_empty 3 = .ok (.iconst 4, 1) := by decide +kernel
theorem dX1_empty_4 : decode cX1_empty 4 = .ok (.if_icmp .ge 35, 3) := by decide +kernel
theorem dX1_empty_7 : decode cX1_empty 7 = .ok (.iconst 4, 1) := by decide +kernel
theorem dX1_empty_8 : decode cX1_empty 8 = .ok (.iload_n 1, 1) := by decide +kernel
theorem dX1_empty_9 : decode cX1_empty 9 = .ok (.imul, 1) := by decide +kernel
theorem dX1_empty_10 : decode cX1_empty 10 = .ok (.iload_n 2, 1) := by decide +kernel
theorem dX1_empty_11 : decode cX1_empty 11 = .ok (.iadd, 1) := by decide +kernel
theorem dX1_empty_12 : decode cX1_empty 12 = .ok (.istore_n 3, 1) := by decide +kernel
theorem dX1_empty_13 : decode cX1_empty 13 = .ok (.iload_n 3, 1) := by decide +kernel
theorem dX1_empty_14 : decode cX1_empty 14 = .ok (.ifCond .lt 19, 3) := by decide +kernel
theorem dX1_empty_17 : decode cX1_empty 17 = .ok (.iload_n 3, 1) := by decide +kernel
theorem dX1_empty_18 : decode cX1_empty 18 = .ok (.aload_n 0, 1) := by decide +kernel
theorem dX1_empty_19 : decode cX1_empty 19 = .ok (.getfield 15, 3) := by decide +kernel
theorem dX1_empty_22 : decode cX1_empty 22 = .ok (.arraylength, 1) := by decide +kernel
theorem dX1_empty_23 : decode cX1_empty 23 = .ok (.if_icmp .ge 10, 3) := by decide +kernel
theorem dX1_empty_26 : decode cX1_empty 26 = .ok (.aload_n 0, 1) := by decide +kernel
theorem dX1_empty_27 : decode cX1_empty 27 = .ok (.getfield 15, 3) := by decide +kernel
theorem dX1_empty_30 : decode cX1_empty 30 = .ok (.iload_n 3, 1) := by decide +kernel
theorem dX1_empty_31 : decode cX1_empty 31 = .ok (.lconst 0, 1) := by decide +kernel
theorem dX1_empty_32 : decode cX1_empty 32 = .ok (.lastore, 1) := by decide +kernel
theorem dX1_empty_33 : decode cX1_empty 33 = .ok (.iinc 2 1, 3) := by decide +kernel
theorem dX1_empty_36 : decode cX1_empty 36 = .ok (.goto (-34), 3) := by decide +kernel
theorem dX1_empty_39 : decode cX1_empty 39 = .ok (.return_, 1) := by decide +kernel
theorem dX1_turn_0 : decode cX1_turn 0 = .ok (.iconst 0, 1) := by decide +kernel
theorem dX1_turn_1 : decode cX1_turn 1 = .ok (.istore_n 2, 1) := by decide +kernel
theorem dX1_turn_2 : decode cX1_turn 2 = .ok (.iload_n 2, 1) := by decide +kernel
theorem dX1_turn_3 : decode cX1_turn 3 = .ok (.iconst 4, 1) := by decide +kernel
theorem dX1_turn_4 : decode cX1_turn 4 = .ok (.if_icmp .ge 44, 3) := by decide +kernel
theorem dX1_turn_7 : decode cX1_turn 7 = .ok (.iconst 4, 1) := by decide +kernel
theorem dX1_turn_8 : decode cX1_turn 8 = .ok (.iload_n 1, 1) := by decide +kernel
theorem dX1_turn_9 : decode cX1_turn 9 = .ok (.imul, 1) := by decide +kernel
theorem dX1_turn_10 : decode cX1_turn 10 = .ok (.iload_n 2, 1) := by decide +kernel
theorem dX1_turn_11 : decode cX1_turn 11 = .ok (.iadd, 1) := by decide +kernel
theorem dX1_turn_12 : decode cX1_turn 12 = .ok (.istore_n 3, 1) := by decide +kernel
theorem dX1_turn_13 : decode cX1_turn 13 = .ok (.iload_n 3, 1) := by decide +kernel
theorem dX1_turn_14 : decode cX1_turn 14 = .ok (.ifCond .lt 28, 3) := by decide +kernel
theorem dX1_turn_17 : decode cX1_turn 17 = .ok (.iload_n 3, 1) := by decide +kernel
theorem dX1_turn_18 : decode cX1_turn 18 = .ok (.aload_n 0, 1) := by decide +kernel
theorem dX1_turn_19 : decode cX1_turn 19 = .ok (.getfield 15, 3) := by decide +kernel
theorem dX1_turn_22 : decode cX1_turn 22 = .ok (.arraylength, 1) := by decide +kernel
theorem dX1_turn_23 : decode cX1_turn 23 = .ok (.if_icmp .ge 19, 3) := by decide +kernel
theorem dX1_turn_26 : decode cX1_turn 26 = .ok (.aload_n 0, 1) := by decide +kernel
theorem dX1_turn_27 : decode cX1_turn 27 = .ok (.getfield 15, 3) := by decide +kernel
theorem dX1_turn_30 : decode cX1_turn 30 = .ok (.iload_n 3, 1) := by decide +kernel
theorem dX1_turn_31 : decode cX1_turn 31 = .ok (.aload_n 0, 1) := by decide +kernel
theorem dX1_turn_32 : decode cX1_turn 32 = .ok (.getfield 15, 3) := by decide +kernel
theorem dX1_turn_35 : decode cX1_turn 35 = .ok (.iload_n 3, 1) := by decide +kernel
theorem dX1_turn_36 : decode cX1_turn 36 = .ok (.laload, 1) := by decide +kernel
theorem dX1_turn_37 : decode cX1_turn 37 = .ok (.ldc2_w 66, 3) := by decide +kernel
theorem dX1_turn_40 : decode cX1_turn 40 = .ok (.lxor, 1) := by decide +kernel
theorem dX1_turn_41 : decode cX1_turn 41 = .ok (.lastore, 1) := by decide +kernel
theorem dX1_turn_42 : decode cX1_turn 42 = .ok (.iinc 2 1, 3) := by decide +kernel
theorem dX1_turn_45 : decode cX1_turn 45 = .ok (.goto (-43), 3) := by decide +kernel
theorem dX1_turn_48 : decode cX1_turn 48 = .ok (.return_, 1) := by decide +kernel
theorem dX1_addSpan_0 : decode cX1_addSpan 0 = .ok (.iconst 0, 1) := by decide +kernel
theorem dX1_addSpan_1 : decode cX1_addSpan 1 = .ok (.istore 4, 2) := by decide +kernel
theorem dX1_addSpan_3 : decode cX1_addSpan 3 = .ok (.iload 4, 2) := by decide +kernel
theorem dX1_addSpan_5 : decode cX1_addSpan 5 = .ok (.iconst 4, 1) := by decide +kernel
theorem dX1_addSpan_6 : decode cX1_addSpan 6 = .ok (.if_icmp .ge 23, 3) := by decide +kernel
theorem dX1_addSpan_9 : decode cX1_addSpan 9 = .ok (.aload_n 0, 1) := by decide +kernel
theorem dX1_addSpan_10 : decode cX1_addSpan 10 = .ok (.iload_n 1, 1) := by decide +kernel
theorem dX1_addSpan_11 : decode cX1_addSpan 11 = .ok (.iload 4, 2) := by decide +kernel
theorem dX1_addSpan_13 : decode cX1_addSpan 13 = .ok (.iload_n 2, 1) := by decide +kernel
theorem dX1_addSpan_14 : decode cX1_addSpan 14 = .ok (.iload_n 3, 1) := by decide +kernel
theorem dX1_addSpan_15 : decode cX1_addSpan 15 = .ok (.iload 4, 2) := by decide +kernel
theorem dX1_addSpan_17 : decode cX1_addSpan 17 = .ok (.invokestatic 62, 3) := by decide +kernel
theorem dX1_addSpan_20 : decode cX1_addSpan 20 = .ok (.invokevirtual 68, 3) := by decide +kernel
theorem dX1_addSpan_23 : decode cX1_addSpan 23 = .ok (.iinc 4 1, 3) := by decide +kernel
theorem dX1_addSpan_26 : decode cX1_addSpan 26 = .ok (.goto (-23), 3) := by decide +kernel
theorem dX1_addSpan_29 : decode cX1_addSpan 29 = .ok (.return_, 1) := by decide +kernel
theorem dX1_addNamed_0 : decode cX1_addNamed 0 = .ok (.iload_n 2, 1) := by decide +kernel
theorem dX1_addNamed_1 : decode cX1_addNamed 1 = .ok (.bipush 65, 2) := by decide +kernel
theorem dX1_addNamed_3 : decode cX1_addNamed 3 = .ok (.if_icmp .lt 13, 3) := by decide +kernel
theorem dX1_addNamed_6 : decode cX1_addNamed 6 = .ok (.iload_n 2, 1) := by decide +kernel
theorem dX1_addNamed_7 : decode cX1_addNamed 7 = .ok (.bipush 90, 2) := by decide +kernel
theorem dX1_addNamed_9 : decode cX1_addNamed 9 = .ok (.if_icmp .gt 7, 3) := by decide +kernel
theorem dX1_addNamed_12 : decode cX1_addNamed 12 = .ok (.iconst 1, 1) := by decide +kernel
theorem dX1_addNamed_13 : decode cX1_addNamed 13 = .ok (.goto 4, 3) := by decide +kernel
theorem dX1_addNamed_16 : decode cX1_addNamed 16 = .ok (.iconst 0, 1) := by decide +kernel
theorem dX1_addNamed_17 : decode cX1_addNamed 17 = .ok (.istore_n 3, 1) := by decide +kernel
theorem dX1_addNamed_18 : decode cX1_addNamed 18 = .ok (.iload_n 3, 1) := by decide +kernel
theorem dX1_addNamed_19 : decode cX1_addNamed 19 = .ok (.ifCond .eq 13, 3) := by decide +kernel
theorem dX1_addNamed_22 : decode cX1_addNamed 22 = .ok (.iload_n 2, 1) := by decide +kernel
theorem dX1_addNamed_23 : decode cX1_addNamed 23 = .ok (.bipush 65, 2) := by decide +kernel
theorem dX1_addNamed_25 : decode cX1_addNamed 25 = .ok (.isub, 1) := by decide +kernel
theorem dX1_addNamed_26 : decode cX1_addNamed 26 = .ok (.bipush 97, 2) := by decide +kernel
theorem dX1_addNamed_28 : decode cX1_addNamed 28 = .ok (.iadd, 1) := by decide +kernel
theorem dX1_addNamed_29 : decode cX1_addNamed 29 = .ok (.goto 4, 3) := by decide +kernel
theorem dX1_addNamed_32 : decode cX1_addNamed 32 = .ok (.iload_n 2, 1) := by decide +kernel
theorem dX1_addNamed_33 : decode cX1_addNamed 33 = .ok (.istore 4, 2) := by decide +kernel
theorem dX1_addNamed_35 : decode cX1_addNamed 35 = .ok (.iconst 0, 1) := by decide +kernel
theorem dX1_addNamed_36 : decode cX1_addNamed 36 = .ok (.istore 5, 2) := by decide +kernel
theorem dX1_addNamed_38 : decode cX1_addNamed 38 = .ok (.iload 5, 2) := by decide +kernel
theorem dX1_addNamed_40 : decode cX1_addNamed 40 = .ok (.iconst 4, 1) := by decide +kernel
theorem dX1_addNamed_41 : decode cX1_addNamed 41 = .ok (.if_icmp .ge 113, 3) := by decide +kernel
theorem dX1_addNamed_44 : decode cX1_addNamed 44 = .ok (.iconst 0, 1) := by decide +kernel
theorem dX1_addNamed_45 : decode cX1_addNamed 45 = .ok (.istore 6, 2) := by decide +kernel
theorem dX1_addNamed_47 : decode cX1_addNamed 47 = .ok (.lconst 0, 1) := by decide +kernel
theorem dX1_addNamed_48 : decode cX1_addNamed 48 = .ok (.lstore 7, 2) := by decide +kernel
theorem dX1_addNamed_50 : decode cX1_addNamed 50 = .ok (.iconst 0, 1) := by decide +kernel
theorem dX1_addNamed_51 : decode cX1_addNamed 51 = .ok (.istore 9, 2) := by decide +kernel
theorem dX1_addNamed_53 : decode cX1_addNamed 53 = .ok (.iload 9, 2) := by decide +kernel
theorem dX1_addNamed_55 : decode cX1_addNamed 55 = .ok (.iconst 2, 1) := by decide +kernel
theorem dX1_addNamed_56 : decode cX1_addNamed 56 = .ok (.iadd, 1) := by decide +kernel
theorem dX1_addNamed_57 : decode cX1_addNamed 57 = .ok (.getstatic 58, 3) := by decide +kernel
theorem dX1_addNamed_60 : decode cX1_addNamed 60 = .ok (.arraylength, 1) := by decide +kernel
theorem dX1_addNamed_61 : decode cX1_addNamed 61 = .ok (.if_icmp .ge 49, 3) := by decide +kernel
theorem dX1_addNamed_64 : decode cX1_addNamed 64 = .ok (.getstatic 58, 3) := by decide +kernel
theorem dX1_addNamed_67 : decode cX1_addNamed 67 = .ok (.iload 9, 2) := by decide +kernel
theorem dX1_addNamed_69 : decode cX1_addNamed 69 = .ok (.iaload, 1) := by decide +kernel
theorem dX1_addNamed_70 : decode cX1_addNamed 70 = .ok (.iload 4, 2) := by decide +kernel
theorem dX1_addNamed_72 : decode cX1_addNamed 72 = .ok (.if_icmp .ne 32, 3) := by decide +kernel
theorem dX1_addNamed_75 : decode cX1_addNamed 75 = .ok (.iconst 1, 1) := by decide +kernel
theorem dX1_addNamed_76 : decode cX1_addNamed 76 = .ok (.istore 6, 2) := by decide +kernel
theorem dX1_addNamed_78 : decode cX1_addNamed 78 = .ok (.lload 7, 2) := by decide +kernel
theorem dX1_addNamed_80 : decode cX1_addNamed 80 = .ok (.getstatic 58, 3) := by decide +kernel
theorem dX1_addNamed_83 : decode cX1_addNamed 83 = .ok (.iload 9, 2) := by decide +kernel
theorem dX1_addNamed_85 : decode cX1_addNamed 85 = .ok (.iconst 1, 1) := by decide +kernel
theorem dX1_addNamed_86 : decode cX1_addNamed 86 = .ok (.iadd, 1) := by decide +kernel
theorem dX1_addNamed_87 : decode cX1_addNamed 87 = .ok (.iaload, 1) := by decide +kernel
theorem dX1_addNamed_88 : decode cX1_addNamed 88 = .ok (.getstatic 58, 3) := by decide +kernel
theorem dX1_addNamed_91 : decode cX1_addNamed 91 = .ok (.iload 9, 2) := by decide +kernel
theorem dX1_addNamed_93 : decode cX1_addNamed 93 = .ok (.iconst 2, 1) := by decide +kernel
theorem dX1_addNamed_94 : decode cX1_addNamed 94 = .ok (.iadd, 1) := by decide +kernel
theorem dX1_addNamed_95 : decode cX1_addNamed 95 = .ok (.iaload, 1) := by decide +kernel
theorem dX1_addNamed_96 : decode cX1_addNamed 96 = .ok (.iload 5, 2) := by decide +kernel
theorem dX1_addNamed_98 : decode cX1_addNamed 98 = .ok (.invokestatic 62, 3) := by decide +kernel
theorem dX1_addNamed_101 : decode cX1_addNamed 101 = .ok (.lor, 1) := by decide +kernel
theorem dX1_addNamed_102 : decode cX1_addNamed 102 = .ok (.lstore 7, 2) := by decide +kernel
theorem dX1_addNamed_104 : decode cX1_addNamed 104 = .ok (.iinc 9 3, 3) := by decide +kernel
theorem dX1_addNamed_107 : decode cX1_addNamed 107 = .ok (.goto (-54), 3) := by decide +kernel
theorem dX1_addNamed_110 : decode cX1_addNamed 110 = .ok (.iload 6, 2) := by decide +kernel
theorem dX1_addNamed_112 : decode cX1_addNamed 112 = .ok (.ifCond .ne 15, 3) := by decide +kernel
theorem dX1_addNamed_115 : decode cX1_addNamed 115 = .ok (.iload_n 2, 1) := by decide +kernel
theorem dX1_addNamed_116 : decode cX1_addNamed 116 = .ok (.iload_n 2, 1) := by decide +kernel
theorem dX1_addNamed_117 : decode cX1_addNamed 117 = .ok (.iload 5, 2) := by decide +kernel
theorem dX1_addNamed_119 : decode cX1_addNamed 119 = .ok (.invokestatic 62, 3) := by decide +kernel
theorem dX1_addNamed_122 : decode cX1_addNamed 122 = .ok (.lstore 7, 2) := by decide +kernel
theorem dX1_addNamed_124 : decode cX1_addNamed 124 = .ok (.goto 15, 3) := by decide +kernel
theorem dX1_addNamed_127 : decode cX1_addNamed 127 = .ok (.iload_n 3, 1) := by decide +kernel
theorem dX1_addNamed_128 : decode cX1_addNamed 128 = .ok (.ifCond .eq 11, 3) := by decide +kernel
theorem dX1_addNamed_131 : decode cX1_addNamed 131 = .ok (.lload 7, 2) := by decide +kernel
theorem dX1_addNamed_133 : decode cX1_addNamed 133 = .ok (.ldc2_w 66, 3) := by decide +kernel
theorem dX1_addNamed_136 : decode cX1_addNamed 136 = .ok (.lxor, 1) := by decide +kernel
theorem dX1_addNamed_137 : decode cX1_addNamed 137 = .ok (.lstore 7, 2) := by decide +kernel
theorem dX1_addNamed_139 : decode cX1_addNamed 139 = .ok (.aload_n 0, 1) := by decide +kernel
theorem dX1_addNamed_140 : decode cX1_addNamed 140 = .ok (.iload_n 1, 1) := by decide +kernel
theorem dX1_addNamed_141 : decode cX1_addNamed 141 = .ok (.iload 5, 2) := by decide +kernel
theorem dX1_addNamed_143 : decode cX1_addNamed 143 = .ok (.lload 7, 2) := by decide +kernel
theorem dX1_addNamed_145 : decode cX1_addNamed 145 = .ok (.invokevirtual 68, 3) := by decide +kernel
theorem dX1_addNamed_148 : decode cX1_addNamed 148 = .ok (.iinc 5 1, 3) := by decide +kernel
theorem dX1_addNamed_151 : decode cX1_addNamed 151 = .ok (.goto (-113), 3) := by decide +kernel
theorem dX1_addNamed_154 : decode cX1_addNamed 154 = .ok (.return_, 1) := by decide +kernel
theorem dX1_readNamed_0 : decode cX1_readNamed 0 = .ok (.iload_n 2, 1) := by decide +kernel
theorem dX1_readNamed_1 : decode cX1_readNamed 1 = .ok (.iconst (-1), 1) := by decide +kernel
theorem dX1_readNamed_2 : decode cX1_readNamed 2 = .ok (.if_icmp .ne 5, 3) := by decide +kernel
theorem dX1_readNamed_5 : decode cX1_readNamed 5 = .ok (.iconst (-1), 1) := by decide +kernel
theorem dX1_readNamed_6 : decode cX1_readNamed 6 = .ok (.ireturn, 1) := by decide +kernel
theorem dX1_readNamed_7 : decode cX1_readNamed 7 = .ok (.aload_n 0, 1) := by decide +kernel
theorem dX1_readNamed_8 : decode cX1_readNamed 8 = .ok (.iload_n 1, 1) := by decide +kernel
theorem dX1_readNamed_9 : decode cX1_readNamed 9 = .ok (.iload_n 2, 1) := by decide +kernel
theorem dX1_readNamed_10 : decode cX1_readNamed 10 = .ok (.invokevirtual 43, 3) := by decide +kernel
theorem dX1_readNamed_13 : decode cX1_readNamed 13 = .ok (.iload_n 3, 1) := by decide +kernel
theorem dX1_readNamed_14 : decode cX1_readNamed 14 = .ok (.ireturn, 1) := by decide +kernel
theorem dX1_closingOf_0 : decode cX1_closingOf 0 = .ok (.iload_n 1, 1) := by decide +kernel
theorem dX1_closingOf_1 : decode cX1_closingOf 1 = .ok (.istore_n 2, 1) := by decide +kernel
theorem dX1_closingOf_2 : decode cX1_closingOf 2 = .ok (.iload_n 2, 1) := by decide +kernel
theorem dX1_closingOf_3 : decode cX1_closingOf 3 = .ok (.aload_n 0, 1) := by decide +kernel
theorem dX1_closingOf_4 : decode cX1_closingOf 4 = .ok (.invokevirtual 54, 3) := by decide +kernel
theorem dX1_closingOf_7 : decode cX1_closingOf 7 = .ok (.if_icmp .ge 40, 3) := by decide +kernel
theorem dX1_closingOf_10 : decode cX1_closingOf 10 = .ok (.aload_n 0, 1) := by decide +kernel
theorem dX1_closingOf_11 : decode cX1_closingOf 11 = .ok (.iload_n 2, 1) := by decide +kernel
theorem dX1_closingOf_12 : decode cX1_closingOf 12 = .ok (.invokevirtual 25, 3) := by decide +kernel
theorem dX1_closingOf_15 : decode cX1_closingOf 15 = .ok (.istore_n 3, 1) := by decide +kernel
theorem dX1_closingOf_16 : decode cX1_closingOf 16 = .ok (.iload_n 3, 1) := by decide +kernel
theorem dX1_closingOf_17 : decode cX1_closingOf 17 = .ok (.bipush 37, 2) := by decide +kernel
theorem dX1_closingOf_19 : decode cX1_closingOf 19 = .ok (.if_icmp .ne 9, 3) := by decide +kernel
theorem dX1_closingOf_22 : decode cX1_closingOf 22 = .ok (.iinc 2 1, 3) := by decide +kernel
theorem dX1_closingOf_25 : decode cX1_closingOf 25 = .ok (.goto 16, 3) := by decide +kernel
theorem dX1_closingOf_28 : decode cX1_closingOf 28 = .ok (.iload_n 3, 1) := by decide +kernel
theorem dX1_closingOf_29 : decode cX1_closingOf 29 = .ok (.bipush 93, 2) := by decide +kernel
theorem dX1_closingOf_31 : decode cX1_closingOf 31 = .ok (.if_icmp .ne 10, 3) := by decide +kernel
theorem dX1_closingOf_34 : decode cX1_closingOf 34 = .ok (.iload_n 2, 1) := by decide +kernel
theorem dX1_closingOf_35 : decode cX1_closingOf 35 = .ok (.iload_n 1, 1) := by decide +kernel
theorem dX1_closingOf_36 : decode cX1_closingOf 36 = .ok (.if_icmp .le 5, 3) := by decide +kernel
theorem dX1_closingOf_39 : decode cX1_closingOf 39 = .ok (.iload_n 2, 1) := by decide +kernel
theorem dX1_closingOf_40 : decode cX1_closingOf 40 = .ok (.ireturn, 1) := by decide +kernel
theorem dX1_closingOf_41 : decode cX1_closingOf 41 = .ok (.iinc 2 1, 3) := by decide +kernel
theorem dX1_closingOf_44 : decode cX1_closingOf 44 = .ok (.goto (-42), 3) := by decide +kernel
theorem dX1_closingOf_47 : decode cX1_closingOf 47 = .ok (.iconst (-1), 1) := by decide +kernel
theorem dX1_closingOf_48 : decode cX1_closingOf 48 = .ok (.ireturn, 1) := by decide +kernel
theorem dX1_readSet_0 : decode cX1_readSet 0 = .ok (.aload_n 2, 1) := by decide +kernel
theorem dX1_readSet_1 : decode cX1_readSet 1 = .ok (.iload_n 3, 1) := by decide +kernel
theorem dX1_readSet_2 : decode cX1_readSet 2 = .ok (.invokevirtual 25, 3) := by decide +kernel
theorem dX1_readSet_5 : decode cX1_readSet 5 = .ok (.bipush 94, 2) := by decide +kernel
theorem dX1_readSet_7 : decode cX1_readSet 7 = .ok (.if_icmp .ne 7, 3) := by decide +kernel
theorem dX1_readSet_10 : decode cX1_readSet 10 = .ok (.iconst 1, 1) := by decide +kernel
theorem dX1_readSet_11 : decode cX1_readSet 11 = .ok (.goto 4, 3) := by decide +kernel
theorem dX1_readSet_14 : decode cX1_readSet 14 = .ok (.iconst 0, 1) := by decide +kernel
theorem dX1_readSet_15 : decode cX1_readSet 15 = .ok (.istore 4, 2) := by decide +kernel
theorem dX1_readSet_17 : decode cX1_readSet 17 = .ok (.iload 4, 2) := by decide +kernel
theorem dX1_readSet_19 : decode cX1_readSet 19 = .ok (.ifCond .eq 9, 3) := by decide +kernel
theorem dX1_readSet_22 : decode cX1_readSet 22 = .ok (.iload_n 3, 1) := by decide +kernel
theorem dX1_readSet_23 : decode cX1_readSet 23 = .ok (.iconst 1, 1) := by decide +kernel
theorem dX1_readSet_24 : decode cX1_readSet 24 = .ok (.iadd, 1) := by decide +kernel
theorem dX1_readSet_25 : decode cX1_readSet 25 = .ok (.goto 4, 3) := by decide +kernel
theorem dX1_readSet_28 : decode cX1_readSet 28 = .ok (.iload_n 3, 1) := by decide +kernel
theorem dX1_readSet_29 : decode cX1_readSet 29 = .ok (.istore 5, 2) := by decide +kernel
theorem dX1_readSet_31 : decode cX1_readSet 31 = .ok (.aload_n 2, 1) := by decide +kernel
theorem dX1_readSet_32 : decode cX1_readSet 32 = .ok (.iload 5, 2) := by decide +kernel
theorem dX1_readSet_34 : decode cX1_readSet 34 = .ok (.invokestatic 47, 3) := by decide +kernel
theorem dX1_readSet_37 : decode cX1_readSet 37 = .ok (.istore 6, 2) := by decide +kernel
theorem dX1_readSet_39 : decode cX1_readSet 39 = .ok (.iload 6, 2) := by decide +kernel
theorem dX1_readSet_41 : decode cX1_readSet 41 = .ok (.iconst (-1), 1) := by decide +kernel
theorem dX1_readSet_42 : decode cX1_readSet 42 = .ok (.if_icmp .ne 5, 3) := by decide +kernel
theorem dX1_readSet_45 : decode cX1_readSet 45 = .ok (.iconst (-1), 1) := by decide +kernel
theorem dX1_readSet_46 : decode cX1_readSet 46 = .ok (.ireturn, 1) := by decide +kernel
theorem dX1_readSet_47 : decode cX1_readSet 47 = .ok (.iload 5, 2) := by decide +kernel
theorem dX1_readSet_49 : decode cX1_readSet 49 = .ok (.istore 7, 2) := by decide +kernel
theorem dX1_readSet_51 : decode cX1_readSet 51 = .ok (.iload 7, 2) := by decide +kernel
theorem dX1_readSet_53 : decode cX1_readSet 53 = .ok (.iload 6, 2) := by decide +kernel
theorem dX1_readSet_55 : decode cX1_readSet 55 = .ok (.if_icmp .ge 100, 3) := by decide +kernel
theorem dX1_readSet_58 : decode cX1_readSet 58 = .ok (.aload_n 2, 1) := by decide +kernel
theorem dX1_readSet_59 : decode cX1_readSet 59 = .ok (.iload 7, 2) := by decide +kernel
theorem dX1_readSet_61 : decode cX1_readSet 61 = .ok (.invokevirtual 25, 3) := by decide +kernel
theorem dX1_readSet_64 : decode cX1_readSet 64 = .ok (.istore 8, 2) := by decide +kernel
theorem dX1_readSet_66 : decode cX1_readSet 66 = .ok (.iload 8, 2) := by decide +kernel
theorem dX1_readSet_68 : decode cX1_readSet 68 = .ok (.bipush 37, 2) := by decide +kernel
theorem dX1_readSet_70 : decode cX1_readSet 70 = .ok (.if_icmp .ne 29, 3) := by decide +kernel
theorem dX1_readSet_73 : decode cX1_readSet 73 = .ok (.iload 7, 2) := by decide +kernel
theorem dX1_readSet_75 : decode cX1_readSet 75 = .ok (.iconst 1, 1) := by decide +kernel
theorem dX1_readSet_76 : decode cX1_readSet 76 = .ok (.iadd, 1) := by decide +kernel
theorem dX1_readSet_77 : decode cX1_readSet 77 = .ok (.iload 6, 2) := by decide +kernel
theorem dX1_readSet_79 : decode cX1_readSet 79 = .ok (.if_icmp .ge 20, 3) := by decide +kernel
theorem dX1_readSet_82 : decode cX1_readSet 82 = .ok (.iinc 7 1, 3) := by decide +kernel
theorem dX1_readSet_85 : decode cX1_readSet 85 = .ok (.aload_n 0, 1) := by decide +kernel
theorem dX1_readSet_86 : decode cX1_readSet 86 = .ok (.iload_n 1, 1) := by decide +kernel
theorem dX1_readSet_87 : decode cX1_readSet 87 = .ok (.aload_n 2, 1) := by decide +kernel
theorem dX1_readSet_88 : decode cX1_readSet 88 = .ok (.iload 7, 2) := by decide +kernel
theorem dX1_readSet_90 : decode cX1_readSet 90 = .ok (.invokevirtual 25, 3) := by decide +kernel
theorem dX1_readSet_93 : decode cX1_readSet 93 = .ok (.invokevirtual 43, 3) := by decide +kernel
theorem dX1_readSet_96 : decode cX1_readSet 96 = .ok (.goto 53, 3) := by decide +kernel
theorem dX1_readSet_99 : decode cX1_readSet 99 = .ok (.aload_n 2, 1) := by decide +kernel
theorem dX1_readSet_100 : decode cX1_readSet 100 = .ok (.iload 7, 2) := by decide +kernel
theorem dX1_readSet_102 : decode cX1_readSet 102 = .ok (.iconst 1, 1) := by decide +kernel
theorem dX1_readSet_103 : decode cX1_readSet 103 = .ok (.iadd, 1) := by decide +kernel
theorem dX1_readSet_104 : decode cX1_readSet 104 = .ok (.invokevirtual 25, 3) := by decide +kernel
theorem dX1_readSet_107 : decode cX1_readSet 107 = .ok (.bipush 45, 2) := by decide +kernel
theorem dX1_readSet_109 : decode cX1_readSet 109 = .ok (.if_icmp .ne 31, 3) := by decide +kernel
theorem dX1_readSet_112 : decode cX1_readSet 112 = .ok (.iload 7, 2) := by decide +kernel
theorem dX1_readSet_114 : decode cX1_readSet 114 = .ok (.iconst 2, 1) := by decide +kernel
theorem dX1_readSet_115 : decode cX1_readSet 115 = .ok (.iadd, 1) := by decide +kernel
theorem dX1_readSet_116 : decode cX1_readSet 116 = .ok (.iload 6, 2) := by decide +kernel
theorem dX1_readSet_118 : decode cX1_readSet 118 = .ok (.if_icmp .ge 22, 3) := by decide +kernel
theorem dX1_readSet_121 : decode cX1_readSet 121 = .ok (.iinc 7 2, 3) := by decide +kernel
theorem dX1_readSet_124 : decode cX1_readSet 124 = .ok (.aload_n 0, 1) := by decide +kernel
theorem dX1_readSet_125 : decode cX1_readSet 125 = .ok (.iload_n 1, 1) := by decide +kernel
theorem dX1_readSet_126 : decode cX1_readSet 126 = .ok (.iload 8, 2) := by decide +kernel
theorem dX1_readSet_128 : decode cX1_readSet 128 = .ok (.aload_n 2, 1) := by decide +kernel
theorem dX1_readSet_129 : decode cX1_readSet 129 = .ok (.iload 7, 2) := by decide +kernel
theorem dX1_readSet_131 : decode cX1_readSet 131 = .ok (.invokevirtual 25, 3) := by decide +kernel
theorem dX1_readSet_134 : decode cX1_readSet 134 = .ok (.invokevirtual 39, 3) := by decide +kernel
theorem dX1_readSet_137 : decode cX1_readSet 137 = .ok (.goto 12, 3) := by decide +kernel
theorem dX1_readSet_140 : decode cX1_readSet 140 = .ok (.aload_n 0, 1) := by decide +kernel
theorem dX1_readSet_141 : decode cX1_readSet 141 = .ok (.iload_n 1, 1) := by decide +kernel
theorem dX1_readSet_142 : decode cX1_readSet 142 = .ok (.iload 8, 2) := by decide +kernel
theorem dX1_readSet_144 : decode cX1_readSet 144 = .ok (.iload 8, 2) := by decide +kernel
theorem dX1_readSet_146 : decode cX1_readSet 146 = .ok (.invokevirtual 39, 3) := by decide +kernel
theorem dX1_readSet_149 : decode cX1_readSet 149 = .ok (.iinc 7 1, 3) := by decide +kernel
theorem dX1_readSet_152 : decode cX1_readSet 152 = .ok (.goto (-101), 3) := by decide +kernel
theorem dX1_readSet_155 : decode cX1_readSet 155 = .ok (.iload 4, 2) := by decide +kernel
theorem dX1_readSet_157 : decode cX1_readSet 157 = .ok (.ifCond .eq 8, 3) := by decide +kernel
theorem dX1_readSet_160 : decode cX1_readSet 160 = .ok (.aload_n 0, 1) := by decide +kernel
theorem dX1_readSet_161 : decode cX1_readSet 161 = .ok (.iload_n 1, 1) := by decide +kernel
theorem dX1_readSet_162 : decode cX1_readSet 162 = .ok (.invokevirtual 51, 3) := by decide +kernel
theorem dX1_readSet_165 : decode cX1_readSet 165 = .ok (.iload 6, 2) := by decide +kernel
theorem dX1_readSet_167 : decode cX1_readSet 167 = .ok (.iconst 1, 1) := by decide +kernel
theorem dX1_readSet_168 : decode cX1_readSet 168 = .ok (.iadd, 1) := by decide +kernel
theorem dX1_readSet_169 : decode cX1_readSet 169 = .ok (.ireturn, 1) := by decide +kernel
theorem dX1_readSingle_0 : decode cX1_readSingle 0 = .ok (.aload_n 0, 1) := by decide +kernel
theorem dX1_readSingle_1 : decode cX1_readSingle 1 = .ok (.iload_n 1, 1) := by decide +kernel
theorem dX1_readSingle_2 : decode cX1_readSingle 2 = .ok (.invokevirtual 21, 3) := by decide +kernel
theorem dX1_readSingle_5 : decode cX1_readSingle 5 = .ok (.aload_n 2, 1) := by decide +kernel
theorem dX1_readSingle_6 : decode cX1_readSingle 6 = .ok (.iload_n 3, 1) := by decide +kernel
theorem dX1_readSingle_7 : decode cX1_readSingle 7 = .ok (.invokevirtual 25, 3) := by decide +kernel
theorem dX1_readSingle_10 : decode cX1_readSingle 10 = .ok (.istore 4, 2) := by decide +kernel
theorem dX1_readSingle_12 : decode cX1_readSingle 12 = .ok (.iload 4, 2) := by decide +kernel
theorem dX1_readSingle_14 : decode cX1_readSingle 14 = .ok (.iconst (-1), 1) := by decide +kernel
theorem dX1_readSingle_15 : decode cX1_readSingle 15 = .ok (.if_icmp .ne 5, 3) := by decide +kernel
theorem dX1_readSingle_18 : decode cX1_readSingle 18 = .ok (.iconst (-1), 1) := by decide +kernel
theorem dX1_readSingle_19 : decode cX1_readSingle 19 = .ok (.ireturn, 1) := by decide +kernel
theorem dX1_readSingle_20 : decode cX1_readSingle 20 = .ok (.iload 4, 2) := by decide +kernel
theorem dX1_readSingle_22 : decode cX1_readSingle 22 = .ok (.bipush 91, 2) := by decide +kernel
theorem dX1_readSingle_24 : decode cX1_readSingle 24 = .ok (.if_icmp .ne 13, 3) := by decide +kernel
theorem dX1_readSingle_27 : decode cX1_readSingle 27 = .ok (.aload_n 0, 1) := by decide +kernel
theorem dX1_readSingle_28 : decode cX1_readSingle 28 = .ok (.iload_n 1, 1) := by decide +kernel
theorem dX1_readSingle_29 : decode cX1_readSingle 29 = .ok (.aload_n 2, 1) := by decide +kernel
theorem dX1_readSingle_30 : decode cX1_readSingle 30 = .ok (.iload_n 3, 1) := by decide +kernel
theorem dX1_readSingle_31 : decode cX1_readSingle 31 = .ok (.iconst 1, 1) := by decide +kernel
theorem dX1_readSingle_32 : decode cX1_readSingle 32 = .ok (.iadd, 1) := by decide +kernel
theorem dX1_readSingle_33 : decode cX1_readSingle 33 = .ok (.invokevirtual 31, 3) := by decide +kernel
theorem dX1_readSingle_36 : decode cX1_readSingle 36 = .ok (.ireturn, 1) := by decide +kernel
theorem dX1_readSingle_37 : decode cX1_readSingle 37 = .ok (.iload 4, 2) := by decide +kernel
theorem dX1_readSingle_39 : decode cX1_readSingle 39 = .ok (.bipush 37, 2) := by decide +kernel
theorem dX1_readSingle_41 : decode cX1_readSingle 41 = .ok (.if_icmp .ne 19, 3) := by decide +kernel
theorem dX1_readSingle_44 : decode cX1_readSingle 44 = .ok (.aload_n 0, 1) := by decide +kernel
theorem dX1_readSingle_45 : decode cX1_readSingle 45 = .ok (.iload_n 1, 1) := by decide +kernel
theorem dX1_readSingle_46 : decode cX1_readSingle 46 = .ok (.aload_n 2, 1) := by decide +kernel
theorem dX1_readSingle_47 : decode cX1_readSingle 47 = .ok (.iload_n 3, 1) := by decide +kernel
theorem dX1_readSingle_48 : decode cX1_readSingle 48 = .ok (.iconst 1, 1) := by decide +kernel
theorem dX1_readSingle_49 : decode cX1_readSingle 49 = .ok (.iadd, 1) := by decide +kernel
theorem dX1_readSingle_50 : decode cX1_readSingle 50 = .ok (.invokevirtual 25, 3) := by decide +kernel
theorem dX1_readSingle_53 : decode cX1_readSingle 53 = .ok (.iload_n 3, 1) := by decide +kernel
theorem dX1_readSingle_54 : decode cX1_readSingle 54 = .ok (.iconst 2, 1) := by decide +kernel
theorem dX1_readSingle_55 : decode cX1_readSingle 55 = .ok (.iadd, 1) := by decide +kernel
theorem dX1_readSingle_56 : decode cX1_readSingle 56 = .ok (.invokevirtual 35, 3) := by decide +kernel
theorem dX1_readSingle_59 : decode cX1_readSingle 59 = .ok (.ireturn, 1) := by decide +kernel
theorem dX1_readSingle_60 : decode cX1_readSingle 60 = .ok (.aload_n 0, 1) := by decide +kernel
theorem dX1_readSingle_61 : decode cX1_readSingle 61 = .ok (.iload_n 1, 1) := by decide +kernel
theorem dX1_readSingle_62 : decode cX1_readSingle 62 = .ok (.iload 4, 2) := by decide +kernel
theorem dX1_readSingle_64 : decode cX1_readSingle 64 = .ok (.bipush 46, 2) := by decide +kernel
theorem dX1_readSingle_66 : decode cX1_readSingle 66 = .ok (.if_icmp .ne 7, 3) := by decide +kernel
theorem dX1_readSingle_69 : decode cX1_readSingle 69 = .ok (.iconst 0, 1) := by decide +kernel
theorem dX1_readSingle_70 : decode cX1_readSingle 70 = .ok (.goto 5, 3) := by decide +kernel
theorem dX1_readSingle_73 : decode cX1_readSingle 73 = .ok (.iload 4, 2) := by decide +kernel
theorem dX1_readSingle_75 : decode cX1_readSingle 75 = .ok (.iload 4, 2) := by decide +kernel
theorem dX1_readSingle_77 : decode cX1_readSingle 77 = .ok (.bipush 46, 2) := by decide +kernel
theorem dX1_readSingle_79 : decode cX1_readSingle 79 = .ok (.if_icmp .ne 9, 3) := by decide +kernel
theorem dX1_readSingle_82 : decode cX1_readSingle 82 = .ok (.sipush 255, 3) := by decide +kernel
theorem dX1_readSingle_85 : decode cX1_readSingle 85 = .ok (.goto 5, 3) := by decide +kernel
theorem dX1_readSingle_88 : decode cX1_readSingle 88 = .ok (.iload 4, 2) := by decide +kernel
theorem dX1_readSingle_90 : decode cX1_readSingle 90 = .ok (.invokevirtual 39, 3) := by decide +kernel
theorem dX1_readSingle_93 : decode cX1_readSingle 93 = .ok (.iload_n 3, 1) := by decide +kernel
theorem dX1_readSingle_94 : decode cX1_readSingle 94 = .ok (.iconst 1, 1) := by decide +kernel
theorem dX1_readSingle_95 : decode cX1_readSingle 95 = .ok (.iadd, 1) := by decide +kernel
theorem dX1_readSingle_96 : decode cX1_readSingle 96 = .ok (.ireturn, 1) := by decide +kernel
theorem dX1_init_0 : decode cX1_init 0 = .ok (.aload_n 0, 1) := by decide +kernel
theorem dX1_init_1 : decode cX1_init 1 = .ok (.invokespecial 3, 3) := by decide +kernel
theorem dX1_init_4 : decode cX1_init 4 = .ok (.aload_n 0, 1) := by decide +kernel
theorem dX1_init_5 : decode cX1_init 5 = .ok (.iconst 4, 1) := by decide +kernel
theorem dX1_init_6 : decode cX1_init 6 = .ok (.iload_n 1, 1) := by decide +kernel
theorem dX1_init_7 : decode cX1_init 7 = .ok (.iconst 0, 1) := by decide +kernel
theorem dX1_init_8 : decode cX1_init 8 = .ok (.invokestatic 9, 3) := by decide +kernel
theorem dX1_init_11 : decode cX1_init 11 = .ok (.imul, 1) := by decide +kernel
theorem dX1_init_12 : decode cX1_init 12 = .ok (.newarray .long, 2) := by decide +kernel
theorem dX1_init_14 : decode cX1_init 14 = .ok (.putfield 15, 3) := by decide +kernel
theorem dX1_init_17 : decode cX1_init 17 = .ok (.return_, 1) := by decide +kernel
