theorem dX4_rowOf_0 : decode cX4_rowOf 0 = .ok (.iload_n 1, 1) := by decide +kernel
theorem dX4_rowOf_1 : decode cX4_rowOf 1 = .ok (.tableswitch 42 0 2 #[27, 32, 37], 27) := by decide +kernel
theorem dX4_rowOf_28 : decode cX4_rowOf 28 = .ok (.aload_n 0, 1) := by decide +kernel
theorem dX4_rowOf_29 : decode cX4_rowOf 29 = .ok (.getfield 14, 3) := by decide +kernel
theorem dX4_rowOf_32 : decode cX4_rowOf 32 = .ok (.areturn, 1) := by decide +kernel
theorem dX4_rowOf_33 : decode cX4_rowOf 33 = .ok (.aload_n 0, 1) := by decide +kernel
theorem dX4_rowOf_34 : decode cX4_rowOf 34 = .ok (.getfield 18, 3) := by decide +kernel
theorem dX4_rowOf_37 : decode cX4_rowOf 37 = .ok (.areturn, 1) := by decide +kernel
theorem dX4_rowOf_38 : decode cX4_rowOf 38 = .ok (.aload_n 0, 1) := by decide +kernel
theorem dX4_rowOf_39 : decode cX4_rowOf 39 = .ok (.getfield 21, 3) := by decide +kernel
theorem dX4_rowOf_42 : decode cX4_rowOf 42 = .ok (.areturn, 1) := by decide +kernel
theorem dX4_rowOf_43 : decode cX4_rowOf 43 = .ok (.aconst_null, 1) := by decide +kernel
theorem dX4_rowOf_44 : decode cX4_rowOf 44 = .ok (.areturn, 1) := by decide +kernel
theorem dX4_isFixed_0 : decode cX4_isFixed 0 = .ok (.aload_n 0, 1) := by decide +kernel
theorem dX4_isFixed_1 : decode cX4_isFixed 1 = .ok (.getfield 18, 3) := by decide +kernel
theorem dX4_isFixed_4 : decode cX4_isFixed 4 = .ok (.iconst 0, 1) := by decide +kernel
theorem dX4_isFixed_5 : decode cX4_isFixed 5 = .ok (.invokevirtual 117, 3) := by decide +kernel
theorem dX4_isFixed_8 : decode cX4_isFixed 8 = .ok (.bipush 94, 2) := by decide +kernel
theorem dX4_isFixed_10 : decode cX4_isFixed 10 = .ok (.if_icmp .ne 7, 3) := by decide +kernel
theorem dX4_isFixed_13 : decode cX4_isFixed 13 = .ok (.iconst 1, 1) := by decide +kernel
theorem dX4_isFixed_14 : decode cX4_isFixed 14 = .ok (.goto 4, 3) := by decide +kernel
theorem dX4_isFixed_17 : decode cX4_isFixed 17 = .ok (.iconst 0, 1) := by decide +kernel
theorem dX4_isFixed_18 : decode cX4_isFixed 18 = .ok (.ireturn, 1) := by decide +kernel
theorem dX4_addByte_0 : decode cX4_addByte 0 = .ok (.aload_n 0, 1) := by decide +kernel
theorem dX4_addByte_1 : decode cX4_addByte 1 = .ok (.getfield 24, 3) := by decide +kernel
theorem dX4_addByte_4 : decode cX4_addByte 4 = .ok (.invokevirtual 56, 3) := by decide +kernel
theorem dX4_addByte_7 : decode cX4_addByte 7 = .ok (.iconst 1, 1) := by decide +kernel
theorem dX4_addByte_8 : decode cX4_addByte 8 = .ok (.if_icmp .ge 6, 3) := by decide +kernel
theorem dX4_addByte_11 : decode cX4_addByte 11 = .ok (.bipush (-3), 2) := by decide +kernel
theorem dX4_addByte_13 : decode cX4_addByte 13 = .ok (.ireturn, 1) := by decide +kernel
theorem dX4_addByte_14 : decode cX4_addByte 14 = .ok (.aload_n 0, 1) := by decide +kernel
theorem dX4_addByte_15 : decode cX4_addByte 15 = .ok (.getfield 24, 3) := by decide +kernel
theorem dX4_addByte_18 : decode cX4_addByte 18 = .ok (.iload_n 1, 1) := by decide +kernel
theorem dX4_addByte_19 : decode cX4_addByte 19 = .ok (.invokevirtual 60, 3) := by decide +kernel
theorem dX4_addByte_22 : decode cX4_addByte 22 = .ok (.iconst 1, 1) := by decide +kernel
theorem dX4_addByte_23 : decode cX4_addByte 23 = .ok (.ireturn, 1) := by decide +kernel
theorem dX4_addText_0 : decode cX4_addText 0 = .ok (.iconst 1, 1) := by decide +kernel
theorem dX4_addText_1 : decode cX4_addText 1 = .ok (.istore_n 3, 1) := by decide +kernel
theorem dX4_addText_2 : decode cX4_addText 2 = .ok (.iload_n 1, 1) := by decide +kernel
theorem dX4_addText_3 : decode cX4_addText 3 = .ok (.istore 4, 2) := by decide +kernel
theorem dX4_addText_5 : decode cX4_addText 5 = .ok (.iload 4, 2) := by decide +kernel
theorem dX4_addText_7 : decode cX4_addText 7 = .ok (.iload_n 2, 1) := by decide +kernel
theorem dX4_addText_8 : decode cX4_addText 8 = .ok (.if_icmp .ge 40, 3) := by decide +kernel
theorem dX4_addText_11 : decode cX4_addText 11 = .ok (.iload 4, 2) := by decide +kernel
theorem dX4_addText_13 : decode cX4_addText 13 = .ok (.aload_n 0, 1) := by decide +kernel
theorem dX4_addText_14 : decode cX4_addText 14 = .ok (.getfield 14, 3) := by decide +kernel
theorem dX4_addText_17 : decode cX4_addText 17 = .ok (.invokevirtual 67, 3) := by decide +kernel
theorem dX4_addText_20 : decode cX4_addText 20 = .ok (.if_icmp .ge 28, 3) := by decide +kernel
theorem dX4_addText_23 : decode cX4_addText 23 = .ok (.iload_n 3, 1) := by decide +kernel
theorem dX4_addText_24 : decode cX4_addText 24 = .ok (.iconst 1, 1) := by decide +kernel
theorem dX4_addText_25 : decode cX4_addText 25 = .ok (.if_icmp .ne 23, 3) := by decide +kernel
theorem dX4_addText_28 : decode cX4_addText 28 = .ok (.aload_n 0, 1) := by decide +kernel
theorem dX4_addText_29 : decode cX4_addText 29 = .ok (.aload_n 0, 1) := by decide +kernel
theorem dX4_addText_30 : decode cX4_addText 30 = .ok (.getfield 14, 3) := by decide +kernel
theorem dX4_addText_33 : decode cX4_addText 33 = .ok (.iload 4, 2) := by decide +kernel
theorem dX4_addText_35 : decode cX4_addText 35 = .ok (.invokevirtual 117, 3) := by decide +kernel
theorem dX4_addText_38 : decode cX4_addText 38 = .ok (.invokevirtual 145, 3) := by decide +kernel
theorem dX4_addText_41 : decode cX4_addText 41 = .ok (.istore_n 3, 1) := by decide +kernel
theorem dX4_addText_42 : decode cX4_addText 42 = .ok (.iinc 4 1, 3) := by decide +kernel
theorem dX4_addText_45 : decode cX4_addText 45 = .ok (.goto (-40), 3) := by decide +kernel
theorem dX4_addText_48 : decode cX4_addText 48 = .ok (.iload_n 3, 1) := by decide +kernel
theorem dX4_addText_49 : decode cX4_addText 49 = .ok (.ireturn, 1) := by decide +kernel
theorem dX4_addNumber_0 : decode cX4_addNumber 0 = .ok (.iconst 1, 1) := by decide +kernel
theorem dX4_addNumber_1 : decode cX4_addNumber 1 = .ok (.istore_n 2, 1) := by decide +kernel
theorem dX4_addNumber_2 : decode cX4_addNumber 2 = .ok (.sipush 1000, 3) := by decide +kernel
theorem dX4_addNumber_5 : decode cX4_addNumber 5 = .ok (.istore_n 3, 1) := by decide +kernel
theorem dX4_addNumber_6 : decode cX4_addNumber 6 = .ok (.iload_n 3, 1) := by decide +kernel
theorem dX4_addNumber_7 : decode cX4_addNumber 7 = .ok (.ifCond .le 35, 3) := by decide +kernel
theorem dX4_addNumber_10 : decode cX4_addNumber 10 = .ok (.iload_n 2, 1) := by decide +kernel
theorem dX4_addNumber_11 : decode cX4_addNumber 11 = .ok (.iconst 1, 1) := by decide +kernel
theorem dX4_addNumber_12 : decode cX4_addNumber 12 = .ok (.if_icmp .ne 30, 3) := by decide +kernel
theorem dX4_addNumber_15 : decode cX4_addNumber 15 = .ok (.iload_n 1, 1) := by decide +kernel
theorem dX4_addNumber_16 : decode cX4_addNumber 16 = .ok (.iload_n 3, 1) := by decide +kernel
theorem dX4_addNumber_17 : decode cX4_addNumber 17 = .ok (.if_icmp .lt 17, 3) := by decide +kernel
theorem dX4_addNumber_20 : decode cX4_addNumber 20 = .ok (.aload_n 0, 1) := by decide +kernel
theorem dX4_addNumber_21 : decode cX4_addNumber 21 = .ok (.bipush 48, 2) := by decide +kernel
theorem dX4_addNumber_23 : decode cX4_addNumber 23 = .ok (.iload_n 1, 1) := by decide +kernel
theorem dX4_addNumber_24 : decode cX4_addNumber 24 = .ok (.iload_n 3, 1) := by decide +kernel
theorem dX4_addNumber_25 : decode cX4_addNumber 25 = .ok (.idiv, 1) := by decide +kernel
theorem dX4_addNumber_26 : decode cX4_addNumber 26 = .ok (.bipush 10, 2) := by decide +kernel
theorem dX4_addNumber_28 : decode cX4_addNumber 28 = .ok (.irem, 1) := by decide +kernel
theorem dX4_addNumber_29 : decode cX4_addNumber 29 = .ok (.iadd, 1) := by decide +kernel
theorem dX4_addNumber_30 : decode cX4_addNumber 30 = .ok (.invokevirtual 145, 3) := by decide +kernel
theorem dX4_addNumber_33 : decode cX4_addNumber 33 = .ok (.istore_n 2, 1) := by decide +kernel
theorem dX4_addNumber_34 : decode cX4_addNumber 34 = .ok (.iload_n 3, 1) := by decide +kernel
theorem dX4_addNumber_35 : decode cX4_addNumber 35 = .ok (.bipush 10, 2) := by decide +kernel
theorem dX4_addNumber_37 : decode cX4_addNumber 37 = .ok (.idiv, 1) := by decide +kernel
theorem dX4_addNumber_38 : decode cX4_addNumber 38 = .ok (.istore_n 3, 1) := by decide +kernel
theorem dX4_addNumber_39 : decode cX4_addNumber 39 = .ok (.goto (-33), 3) := by decide +kernel
theorem dX4_addNumber_42 : decode cX4_addNumber 42 = .ok (.iload_n 2, 1) := by decide +kernel
theorem dX4_addNumber_43 : decode cX4_addNumber 43 = .ok (.ireturn, 1) := by decide +kernel
theorem dX4_addMarked_0 : decode cX4_addMarked 0 = .ok (.iload_n 1, 1) := by decide +kernel
theorem dX4_addMarked_1 : decode cX4_addMarked 1 = .ok (.bipush 37, 2) := by decide +kernel
theorem dX4_addMarked_3 : decode cX4_addMarked 3 = .ok (.if_icmp .ne 9, 3) := by decide +kernel
theorem dX4_addMarked_6 : decode cX4_addMarked 6 = .ok (.aload_n 0, 1) := by decide +kernel
theorem dX4_addMarked_7 : decode cX4_addMarked 7 = .ok (.iload_n 1, 1) := by decide +kernel
theorem dX4_addMarked_8 : decode cX4_addMarked 8 = .ok (.invokevirtual 145, 3) := by decide +kernel
theorem dX4_addMarked_11 : decode cX4_addMarked 11 = .ok (.ireturn, 1) := by decide +kernel
theorem dX4_addMarked_12 : decode cX4_addMarked 12 = .ok (.iload_n 1, 1) := by decide +kernel
theorem dX4_addMarked_13 : decode cX4_addMarked 13 = .ok (.bipush 48, 2) := by decide +kernel
theorem dX4_addMarked_15 : decode cX4_addMarked 15 = .ok (.if_icmp .eq 19, 3) := by decide +kernel
theorem dX4_addMarked_18 : decode cX4_addMarked 18 = .ok (.iload_n 1, 1) := by decide +kernel
theorem dX4_addMarked_19 : decode cX4_addMarked 19 = .ok (.bipush 49, 2) := by decide +kernel
theorem dX4_addMarked_21 : decode cX4_addMarked 21 = .ok (.if_icmp .ne 20, 3) := by decide +kernel
theorem dX4_addMarked_24 : decode cX4_addMarked 24 = .ok (.aload_n 0, 1) := by decide +kernel
theorem dX4_addMarked_25 : decode cX4_addMarked 25 = .ok (.getfield 30, 3) := by decide +kernel
theorem dX4_addMarked_28 : decode cX4_addMarked 28 = .ok (.invokevirtual 107, 3) := by decide +kernel
theorem dX4_addMarked_31 : decode cX4_addMarked 31 = .ok (.ifCond .ne 10, 3) := by decide +kernel
theorem dX4_addMarked_34 : decode cX4_addMarked 34 = .ok (.aload_n 0, 1) := by decide +kernel
theorem dX4_addMarked_35 : decode cX4_addMarked 35 = .ok (.iload_n 2, 1) := by decide +kernel
theorem dX4_addMarked_36 : decode cX4_addMarked 36 = .ok (.iload_n 3, 1) := by decide +kernel
theorem dX4_addMarked_37 : decode cX4_addMarked 37 = .ok (.invokevirtual 139, 3) := by decide +kernel
theorem dX4_addMarked_40 : decode cX4_addMarked 40 = .ok (.ireturn, 1) := by decide +kernel
theorem dX4_addMarked_41 : decode cX4_addMarked 41 = .ok (.iload_n 1, 1) := by decide +kernel
theorem dX4_addMarked_42 : decode cX4_addMarked 42 = .ok (.bipush 49, 2) := by decide +kernel
theorem dX4_addMarked_44 : decode cX4_addMarked 44 = .ok (.isub, 1) := by decide +kernel
theorem dX4_addMarked_45 : decode cX4_addMarked 45 = .ok (.istore 4, 2) := by decide +kernel
theorem dX4_addMarked_47 : decode cX4_addMarked 47 = .ok (.iload 4, 2) := by decide +kernel
theorem dX4_addMarked_49 : decode cX4_addMarked 49 = .ok (.ifCond .lt 22, 3) := by decide +kernel
theorem dX4_addMarked_52 : decode cX4_addMarked 52 = .ok (.iload 4, 2) := by decide +kernel
theorem dX4_addMarked_54 : decode cX4_addMarked 54 = .ok (.bipush 8, 2) := by decide +kernel
theorem dX4_addMarked_56 : decode cX4_addMarked 56 = .ok (.if_icmp .gt 15, 3) := by decide +kernel
theorem dX4_addMarked_59 : decode cX4_addMarked 59 = .ok (.iload 4, 2) := by decide +kernel
theorem dX4_addMarked_61 : decode cX4_addMarked 61 = .ok (.aload_n 0, 1) := by decide +kernel
theorem dX4_addMarked_62 : decode cX4_addMarked 62 = .ok (.getfield 30, 3) := by decide +kernel
theorem dX4_addMarked_65 : decode cX4_addMarked 65 = .ok (.invokevirtual 107, 3) := by decide +kernel
theorem dX4_addMarked_68 : decode cX4_addMarked 68 = .ok (.if_icmp .lt 6, 3) := by decide +kernel
theorem dX4_addMarked_71 : decode cX4_addMarked 71 = .ok (.bipush (-2), 2) := by decide +kernel
theorem dX4_addMarked_73 : decode cX4_addMarked 73 = .ok (.ireturn, 1) := by decide +kernel
theorem dX4_addMarked_74 : decode cX4_addMarked 74 = .ok (.aload_n 0, 1) := by decide +kernel
theorem dX4_addMarked_75 : decode cX4_addMarked 75 = .ok (.getfield 37, 3) := by decide +kernel
theorem dX4_addMarked_78 : decode cX4_addMarked 78 = .ok (.iload 4, 2) := by decide +kernel
theorem dX4_addMarked_80 : decode cX4_addMarked 80 = .ok (.invokevirtual 110, 3) := by decide +kernel
theorem dX4_addMarked_83 : decode cX4_addMarked 83 = .ok (.istore 5, 2) := by decide +kernel
theorem dX4_addMarked_85 : decode cX4_addMarked 85 = .ok (.aload_n 0, 1) := by decide +kernel
theorem dX4_addMarked_86 : decode cX4_addMarked 86 = .ok (.getfield 37, 3) := by decide +kernel
theorem dX4_addMarked_89 : decode cX4_addMarked 89 = .ok (.iload 4, 2) := by decide +kernel
theorem dX4_addMarked_91 : decode cX4_addMarked 91 = .ok (.invokevirtual 114, 3) := by decide +kernel
theorem dX4_addMarked_94 : decode cX4_addMarked 94 = .ok (.istore 6, 2) := by decide +kernel
theorem dX4_addMarked_96 : decode cX4_addMarked 96 = .ok (.iload 6, 2) := by decide +kernel
theorem dX4_addMarked_98 : decode cX4_addMarked 98 = .ok (.ifCond .ge 14, 3) := by decide +kernel
theorem dX4_addMarked_101 : decode cX4_addMarked 101 = .ok (.aload_n 0, 1) := by decide +kernel
theorem dX4_addMarked_102 : decode cX4_addMarked 102 = .ok (.iload 5, 2) := by decide +kernel
theorem dX4_addMarked_104 : decode cX4_addMarked 104 = .ok (.iconst 1, 1) := by decide +kernel
theorem dX4_addMarked_105 : decode cX4_addMarked 105 = .ok (.iadd, 1) := by decide +kernel
theorem dX4_addMarked_106 : decode cX4_addMarked 106 = .ok (.invokevirtual 148, 3) := by decide +kernel
theorem dX4_addMarked_109 : decode cX4_addMarked 109 = .ok (.goto 14, 3) := by decide +kernel
theorem dX4_addMarked_112 : decode cX4_addMarked 112 = .ok (.aload_n 0, 1) := by decide +kernel
theorem dX4_addMarked_113 : decode cX4_addMarked 113 = .ok (.iload 5, 2) := by decide +kernel
theorem dX4_addMarked_115 : decode cX4_addMarked 115 = .ok (.iload 5, 2) := by decide +kernel
theorem dX4_addMarked_117 : decode cX4_addMarked 117 = .ok (.iload 6, 2) := by decide +kernel
theorem dX4_addMarked_119 : decode cX4_addMarked 119 = .ok (.iadd, 1) := by decide +kernel
theorem dX4_addMarked_120 : decode cX4_addMarked 120 = .ok (.invokevirtual 139, 3) := by decide +kernel
theorem dX4_addMarked_123 : decode cX4_addMarked 123 = .ok (.ireturn, 1) := by decide +kernel
theorem dX4_addReplacement_0 : decode cX4_addReplacement 0 = .ok (.iconst 1, 1) := by decide +kernel
theorem dX4_addReplacement_1 : decode cX4_addReplacement 1 = .ok (.istore_n 3, 1) := by decide +kernel
theorem dX4_addReplacement_2 : decode cX4_addReplacement 2 = .ok (.iconst 0, 1) := by decide +kernel
theorem dX4_addReplacement_3 : decode cX4_addReplacement 3 = .ok (.istore 4, 2) := by decide +kernel
theorem dX4_addReplacement_5 : decode cX4_addReplacement 5 = .ok (.iload 4, 2) := by decide +kernel
theorem dX4_addReplacement_7 : decode cX4_addReplacement 7 = .ok (.aload_n 0, 1) := by decide +kernel
theorem dX4_addReplacement_8 : decode cX4_addReplacement 8 = .ok (.getfield 21, 3) := by decide +kernel
theorem dX4_addReplacement_11 : decode cX4_addReplacement 11 = .ok (.invokevirtual 67, 3) := by decide +kernel
theorem dX4_addReplacement_14 : decode cX4_addReplacement 14 = .ok (.if_icmp .ge 61, 3) := by decide +kernel
theorem dX4_addReplacement_17 : decode cX4_addReplacement 17 = .ok (.iload_n 3, 1) := by decide +kernel
theorem dX4_addReplacement_18 : decode cX4_addReplacement 18 = .ok (.iconst 1, 1) := by decide +kernel
theorem dX4_addReplacement_19 : decode cX4_addReplacement 19 = .ok (.if_icmp .ne 56, 3) := by decide +kernel
theorem dX4_addReplacement_22 : decode cX4_addReplacement 22 = .ok (.aload_n 0, 1) := by decide +kernel
theorem dX4_addReplacement_23 : decode cX4_addReplacement 23 = .ok (.getfield 21, 3) := by decide +kernel
theorem dX4_addReplacement_26 : decode cX4_addReplacement 26 = .ok (.iload 4, 2) := by decide +kernel
theorem dX4_addReplacement_28 : decode cX4_addReplacement 28 = .ok (.invokevirtual 117, 3) := by decide +kernel
theorem dX4_addReplacement_31 : decode cX4_addReplacement 31 = .ok (.istore 5, 2) := by decide +kernel
theorem dX4_addReplacement_33 : decode cX4_addReplacement 33 = .ok (.iload 5, 2) := by decide +kernel
theorem dX4_addReplacement_35 : decode cX4_addReplacement 35 = .ok (.bipush 37, 2) := by decide +kernel
theorem dX4_addReplacement_37 : decode cX4_addReplacement 37 = .ok (.if_icmp .ne 25, 3) := by decide +kernel
theorem dX4_addReplacement_40 : decode cX4_addReplacement 40 = .ok (.iinc 4 1, 3) := by decide +kernel
theorem dX4_addReplacement_43 : decode cX4_addReplacement 43 = .ok (.aload_n 0, 1) := by decide +kernel
theorem dX4_addReplacement_44 : decode cX4_addReplacement 44 = .ok (.aload_n 0, 1) := by decide +kernel
theorem dX4_addReplacement_45 : decode cX4_addReplacement 45 = .ok (.getfield 21, 3) := by decide +kernel
theorem dX4_addReplacement_48 : decode cX4_addReplacement 48 = .ok (.iload 4, 2) := by decide +kernel
theorem dX4_addReplacement_50 : decode cX4_addReplacement 50 = .ok (.invokevirtual 117, 3) := by decide +kernel
theorem dX4_addReplacement_53 : decode cX4_addReplacement 53 = .ok (.iload_n 1, 1) := by decide +kernel
theorem dX4_addReplacement_54 : decode cX4_addReplacement 54 = .ok (.iload_n 2, 1) := by decide +kernel
theorem dX4_addReplacement_55 : decode cX4_addReplacement 55 = .ok (.invokevirtual 142, 3) := by decide +kernel
theorem dX4_addReplacement_58 : decode cX4_addReplacement 58 = .ok (.istore_n 3, 1) := by decide +kernel
theorem dX4_addReplacement_59 : decode cX4_addReplacement 59 = .ok (.goto 10, 3) := by decide +kernel
theorem dX4_addReplacement_62 : decode cX4_addReplacement 62 = .ok (.aload_n 0, 1) := by decide +kernel
theorem dX4_addReplacement_63 : decode cX4_addReplacement 63 = .ok (.iload 5, 2) := by decide +kernel
theorem dX4_addReplacement_65 : decode cX4_addReplacement 65 = .ok (.invokevirtual 145, 3) := by decide +kernel
theorem dX4_addReplacement_68 : decode cX4_addReplacement 68 = .ok (.istore_n 3, 1) := by decide +kernel
theorem dX4_addReplacement_69 : decode cX4_addReplacement 69 = .ok (.iinc 4 1, 3) := by decide +kernel
theorem dX4_addReplacement_72 : decode cX4_addReplacement 72 = .ok (.goto (-67), 3) := by decide +kernel
theorem dX4_addReplacement_75 : decode cX4_addReplacement 75 = .ok (.iload_n 3, 1) := by decide +kernel
theorem dX4_addReplacement_76 : decode cX4_addReplacement 76 = .ok (.ireturn, 1) := by decide +kernel
theorem dX4_replaceMatches_0 : decode cX4_replaceMatches 0 = .ok (.iconst 0, 1) := by decide +kernel
theorem dX4_replaceMatches_1 : decode cX4_replaceMatches 1 = .ok (.istore_n 3, 1) := by decide +kernel
theorem dX4_replaceMatches_2 : decode cX4_replaceMatches 2 = .ok (.iconst (-1), 1) := by decide +kernel
theorem dX4_replaceMatches_3 : decode cX4_replaceMatches 3 = .ok (.istore 4, 2) := by decide +kernel
theorem dX4_replaceMatches_5 : decode cX4_replaceMatches 5 = .ok (.iconst 0, 1) := by decide +kernel
theorem dX4_replaceMatches_6 : decode cX4_replaceMatches 6 = .ok (.istore 5, 2) := by decide +kernel
theorem dX4_replaceMatches_8 : decode cX4_replaceMatches 8 = .ok (.iload_n 2, 1) := by decide +kernel
theorem dX4_replaceMatches_9 : decode cX4_replaceMatches 9 = .ok (.ifCond .eq 7, 3) := by decide +kernel
theorem dX4_replaceMatches_12 : decode cX4_replaceMatches 12 = .ok (.iconst 1, 1) := by decide +kernel
theorem dX4_replaceMatches_13 : decode cX4_replaceMatches 13 = .ok (.goto 14, 3) := by decide +kernel
theorem dX4_replaceMatches_16 : decode cX4_replaceMatches 16 = .ok (.iconst 2, 1) := by decide +kernel
theorem dX4_replaceMatches_17 : decode cX4_replaceMatches 17 = .ok (.aload_n 0, 1) := by decide +kernel
theorem dX4_replaceMatches_18 : decode cX4_replaceMatches 18 = .ok (.getfield 14, 3) := by decide +kernel
theorem dX4_replaceMatches_21 : decode cX4_replaceMatches 21 = .ok (.invokevirtual 67, 3) := by decide +kernel
theorem dX4_replaceMatches_24 : decode cX4_replaceMatches 24 = .ok (.iconst 1, 1) := by decide +kernel
theorem dX4_replaceMatches_25 : decode cX4_replaceMatches 25 = .ok (.iadd, 1) := by decide +kernel
theorem dX4_replaceMatches_26 : decode cX4_replaceMatches 26 = .ok (.imul, 1) := by decide +kernel
theorem dX4_replaceMatches_27 : decode cX4_replaceMatches 27 = .ok (.istore 6, 2) := by decide +kernel
theorem dX4_replaceMatches_29 : decode cX4_replaceMatches 29 = .ok (.iconst 0, 1) := by decide +kernel
theorem dX4_replaceMatches_30 : decode cX4_replaceMatches 30 = .ok (.istore 7, 2) := by decide +kernel
theorem dX4_replaceMatches_32 : decode cX4_replaceMatches 32 = .ok (.iload 7, 2) := by decide +kernel
theorem dX4_replaceMatches_34 : decode cX4_replaceMatches 34 = .ok (.iload 6, 2) := by decide +kernel
theorem dX4_replaceMatches_36 : decode cX4_replaceMatches 36 = .ok (.if_icmp .ge 123, 3) := by decide +kernel
theorem dX4_replaceMatches_39 : decode cX4_replaceMatches 39 = .ok (.iload 5, 2) := by decide +kernel
theorem dX4_replaceMatches_41 : decode cX4_replaceMatches 41 = .ok (.iload_n 1, 1) := by decide +kernel
theorem dX4_replaceMatches_42 : decode cX4_replaceMatches 42 = .ok (.if_icmp .ge 117, 3) := by decide +kernel
theorem dX4_replaceMatches_45 : decode cX4_replaceMatches 45 = .ok (.iload_n 3, 1) := by decide +kernel
theorem dX4_replaceMatches_46 : decode cX4_replaceMatches 46 = .ok (.aload_n 0, 1) := by decide +kernel
theorem dX4_replaceMatches_47 : decode cX4_replaceMatches 47 = .ok (.getfield 14, 3) := by decide +kernel
theorem dX4_replaceMatches_50 : decode cX4_replaceMatches 50 = .ok (.invokevirtual 67, 3) := by decide +kernel
theorem dX4_replaceMatches_53 : decode cX4_replaceMatches 53 = .ok (.if_icmp .gt 106, 3) := by decide +kernel
theorem dX4_replaceMatches_56 : decode cX4_replaceMatches 56 = .ok (.aload_n 0, 1) := by decide +kernel
theorem dX4_replaceMatches_57 : decode cX4_replaceMatches 57 = .ok (.getfield 37, 3) := by decide +kernel
theorem dX4_replaceMatches_60 : decode cX4_replaceMatches 60 = .ok (.aload_n 0, 1) := by decide +kernel
theorem dX4_replaceMatches_61 : decode cX4_replaceMatches 61 = .ok (.getfield 30, 3) := by decide +kernel
theorem dX4_replaceMatches_64 : decode cX4_replaceMatches 64 = .ok (.aload_n 0, 1) := by decide +kernel
theorem dX4_replaceMatches_65 : decode cX4_replaceMatches 65 = .ok (.getfield 14, 3) := by decide +kernel
theorem dX4_replaceMatches_68 : decode cX4_replaceMatches 68 = .ok (.iload_n 3, 1) := by decide +kernel
theorem dX4_replaceMatches_69 : decode cX4_replaceMatches 69 = .ok (.invokevirtual 128, 3) := by decide +kernel
theorem dX4_replaceMatches_72 : decode cX4_replaceMatches 72 = .ok (.istore 8, 2) := by decide +kernel
theorem dX4_replaceMatches_74 : decode cX4_replaceMatches 74 = .ok (.iload 8, 2) := by decide +kernel
theorem dX4_replaceMatches_76 : decode cX4_replaceMatches 76 = .ok (.ifCond .ge 6, 3) := by decide +kernel
theorem dX4_replaceMatches_79 : decode cX4_replaceMatches 79 = .ok (.iload 8, 2) := by decide +kernel
theorem dX4_replaceMatches_81 : decode cX4_replaceMatches 81 = .ok (.ireturn, 1) := by decide +kernel
theorem dX4_replaceMatches_82 : decode cX4_replaceMatches 82 = .ok (.iload 8, 2) := by decide +kernel
theorem dX4_replaceMatches_84 : decode cX4_replaceMatches 84 = .ok (.iconst 1, 1) := by decide +kernel
theorem dX4_replaceMatches_85 : decode cX4_replaceMatches 85 = .ok (.if_icmp .ne 47, 3) := by decide +kernel
theorem dX4_replaceMatches_88 : decode cX4_replaceMatches 88 = .ok (.aload_n 0, 1) := by decide +kernel
theorem dX4_replaceMatches_89 : decode cX4_replaceMatches 89 = .ok (.getfield 37, 3) := by decide +kernel
theorem dX4_replaceMatches_92 : decode cX4_replaceMatches 92 = .ok (.invokevirtual 132, 3) := by decide +kernel
theorem dX4_replaceMatches_95 : decode cX4_replaceMatches 95 = .ok (.iload 4, 2) := by decide +kernel
theorem dX4_replaceMatches_97 : decode cX4_replaceMatches 97 = .ok (.if_icmp .eq 35, 3) := by decide +kernel
theorem dX4_replaceMatches_100 : decode cX4_replaceMatches 100 = .ok (.aload_n 0, 1) := by decide +kernel
theorem dX4_replaceMatches_101 : decode cX4_replaceMatches 101 = .ok (.iload_n 3, 1) := by decide +kernel
theorem dX4_replaceMatches_102 : decode cX4_replaceMatches 102 = .ok (.aload_n 0, 1) := by decide +kernel
theorem dX4_replaceMatches_103 : decode cX4_replaceMatches 103 = .ok (.getfield 37, 3) := by decide +kernel
theorem dX4_replaceMatches_106 : decode cX4_replaceMatches 106 = .ok (.invokevirtual 132, 3) := by decide +kernel
theorem dX4_replaceMatches_109 : decode cX4_replaceMatches 109 = .ok (.invokevirtual 135, 3) := by decide +kernel
theorem dX4_replaceMatches_112 : decode cX4_replaceMatches 112 = .ok (.istore 8, 2) := by decide +kernel
theorem dX4_replaceMatches_114 : decode cX4_replaceMatches 114 = .ok (.aload_n 0, 1) := by decide +kernel
theorem dX4_replaceMatches_115 : decode cX4_replaceMatches 115 = .ok (.getfield 37, 3) := by decide +kernel
theorem dX4_replaceMatches_118 : decode cX4_replaceMatches 118 = .ok (.invokevirtual 132, 3) := by decide +kernel
theorem dX4_replaceMatches_121 : decode cX4_replaceMatches 121 = .ok (.istore 4, 2) := by decide +kernel
theorem dX4_replaceMatches_123 : decode cX4_replaceMatches 123 = .ok (.iload 4, 2) := by decide +kernel
theorem dX4_replaceMatches_125 : decode cX4_replaceMatches 125 = .ok (.istore_n 3, 1) := by decide +kernel
theorem dX4_replaceMatches_126 : decode cX4_replaceMatches 126 = .ok (.iinc 5 1, 3) := by decide +kernel
theorem dX4_replaceMatches_129 : decode cX4_replaceMatches 129 = .ok (.goto 16, 3) := by decide +kernel
theorem dX4_replaceMatches_132 : decode cX4_replaceMatches 132 = .ok (.aload_n 0, 1) := by decide +kernel
theorem dX4_replaceMatches_133 : decode cX4_replaceMatches 133 = .ok (.iload_n 3, 1) := by decide +kernel
theorem dX4_replaceMatches_134 : decode cX4_replaceMatches 134 = .ok (.iload_n 3, 1) := by decide +kernel
theorem dX4_replaceMatches_135 : decode cX4_replaceMatches 135 = .ok (.iconst 1, 1) := by decide +kernel
theorem dX4_replaceMatches_136 : decode cX4_replaceMatches 136 = .ok (.iadd, 1) := by decide +kernel
theorem dX4_replaceMatches_137 : decode cX4_replaceMatches 137 = .ok (.invokevirtual 139, 3) := by decide +kernel
theorem dX4_replaceMatches_140 : decode cX4_replaceMatches 140 = .ok (.istore 8, 2) := by decide +kernel
theorem dX4_replaceMatches_142 : decode cX4_replaceMatches 142 = .ok (.iinc 3 1, 3) := by decide +kernel
theorem dX4_replaceMatches_145 : decode cX4_replaceMatches 145 = .ok (.iload 8, 2) := by decide +kernel
theorem dX4_replaceMatches_147 : decode cX4_replaceMatches 147 = .ok (.ifCond .ge 6, 3) := by decide +kernel
theorem dX4_replaceMatches_150 : decode cX4_replaceMatches 150 = .ok (.iload 8, 2) := by decide +kernel
theorem dX4_replaceMatches_152 : decode cX4_replaceMatches 152 = .ok (.ireturn, 1) := by decide +kernel
theorem dX4_replaceMatches_153 : decode cX4_replaceMatches 153 = .ok (.iinc 7 1, 3) := by decide +kernel
theorem dX4_replaceMatches_156 : decode cX4_replaceMatches 156 = .ok (.goto (-124), 3) := by decide +kernel
theorem dX4_replaceMatches_159 : decode cX4_replaceMatches 159 = .ok (.aload_n 0, 1) := by decide +kernel
theorem dX4_replaceMatches_160 : decode cX4_replaceMatches 160 = .ok (.iload_n 3, 1) := by decide +kernel
theorem dX4_replaceMatches_161 : decode cX4_replaceMatches 161 = .ok (.aload_n 0, 1) := by decide +kernel
theorem dX4_replaceMatches_162 : decode cX4_replaceMatches 162 = .ok (.getfield 14, 3) := by decide +kernel
theorem dX4_replaceMatches_165 : decode cX4_replaceMatches 165 = .ok (.invokevirtual 67, 3) := by decide +kernel
theorem dX4_replaceMatches_168 : decode cX4_replaceMatches 168 = .ok (.invokevirtual 139, 3) := by decide +kernel
theorem dX4_replaceMatches_171 : decode cX4_replaceMatches 171 = .ok (.istore 7, 2) := by decide +kernel
theorem dX4_replaceMatches_173 : decode cX4_replaceMatches 173 = .ok (.iload 7, 2) := by decide +kernel
theorem dX4_replaceMatches_175 : decode cX4_replaceMatches 175 = .ok (.ifCond .ge 8, 3) := by decide +kernel
theorem dX4_replaceMatches_178 : decode cX4_replaceMatches 178 = .ok (.iload 7, 2) := by decide +kernel
theorem dX4_replaceMatches_180 : decode cX4_replaceMatches 180 = .ok (.goto 5, 3) := by decide +kernel
theorem dX4_replaceMatches_183 : decode cX4_replaceMatches 183 = .ok (.iload 5, 2) := by decide +kernel
theorem dX4_replaceMatches_185 : decode cX4_replaceMatches 185 = .ok (.ireturn, 1) := by decide +kernel
theorem dX4_search_0 : decode cX4_search 0 = .ok (.aload_n 0, 1) := by decide +kernel
theorem dX4_search_1 : decode cX4_search 1 = .ok (.iconst 0, 1) := by decide +kernel
theorem dX4_search_2 : decode cX4_search 2 = .ok (.putfield 63, 3) := by decide +kernel
theorem dX4_search_5 : decode cX4_search 5 = .ok (.iload_n 1, 1) := by decide +kernel
theorem dX4_search_6 : decode cX4_search 6 = .ok (.istore 4, 2) := by decide +kernel
theorem dX4_search_8 : decode cX4_search 8 = .ok (.iload 4, 2) := by decide +kernel
theorem dX4_search_10 : decode cX4_search 10 = .ok (.iload_n 2, 1) := by decide +kernel
theorem dX4_search_11 : decode cX4_search 11 = .ok (.if_icmp .gt 77, 3) := by decide +kernel
theorem dX4_search_14 : decode cX4_search 14 = .ok (.aload_n 0, 1) := by decide +kernel
theorem dX4_search_15 : decode cX4_search 15 = .ok (.getfield 37, 3) := by decide +kernel
theorem dX4_search_18 : decode cX4_search 18 = .ok (.aload_n 0, 1) := by decide +kernel
theorem dX4_search_19 : decode cX4_search 19 = .ok (.getfield 30, 3) := by decide +kernel
theorem dX4_search_22 : decode cX4_search 22 = .ok (.aload_n 0, 1) := by decide +kernel
theorem dX4_search_23 : decode cX4_search 23 = .ok (.getfield 14, 3) := by decide +kernel
theorem dX4_search_26 : decode cX4_search 26 = .ok (.iload 4, 2) := by decide +kernel
theorem dX4_search_28 : decode cX4_search 28 = .ok (.invokevirtual 128, 3) := by decide +kernel
theorem dX4_search_31 : decode cX4_search 31 = .ok (.istore 5, 2) := by decide +kernel
theorem dX4_search_33 : decode cX4_search 33 = .ok (.iload 5, 2) := by decide +kernel
theorem dX4_search_35 : decode cX4_search 35 = .ok (.ifCond .ge 6, 3) := by decide +kernel
theorem dX4_search_38 : decode cX4_search 38 = .ok (.iload 5, 2) := by decide +kernel
theorem dX4_search_40 : decode cX4_search 40 = .ok (.ireturn, 1) := by decide +kernel
theorem dX4_search_41 : decode cX4_search 41 = .ok (.iload 5, 2) := by decide +kernel
theorem dX4_search_43 : decode cX4_search 43 = .ok (.iconst 1, 1) := by decide +kernel
theorem dX4_search_44 : decode cX4_search 44 = .ok (.if_icmp .ne 38, 3) := by decide +kernel
theorem dX4_search_47 : decode cX4_search 47 = .ok (.aload_n 0, 1) := by decide +kernel
theorem dX4_search_48 : decode cX4_search 48 = .ok (.getfield 37, 3) := by decide +kernel
theorem dX4_search_51 : decode cX4_search 51 = .ok (.invokevirtual 132, 3) := by decide +kernel
theorem dX4_search_54 : decode cX4_search 54 = .ok (.iload_n 3, 1) := by decide +kernel
theorem dX4_search_55 : decode cX4_search 55 = .ok (.if_icmp .eq 27, 3) := by decide +kernel
theorem dX4_search_58 : decode cX4_search 58 = .ok (.aload_n 0, 1) := by decide +kernel
theorem dX4_search_59 : decode cX4_search 59 = .ok (.iconst 1, 1) := by decide +kernel
theorem dX4_search_60 : decode cX4_search 60 = .ok (.putfield 63, 3) := by decide +kernel
theorem dX4_search_63 : decode cX4_search 63 = .ok (.aload_n 0, 1) := by decide +kernel
theorem dX4_search_64 : decode cX4_search 64 = .ok (.iload 4, 2) := by decide +kernel
theorem dX4_search_66 : decode cX4_search 66 = .ok (.putfield 104, 3) := by decide +kernel
theorem dX4_search_69 : decode cX4_search 69 = .ok (.aload_n 0, 1) := by decide +kernel
theorem dX4_search_70 : decode cX4_search 70 = .ok (.aload_n 0, 1) := by decide +kernel
theorem dX4_search_71 : decode cX4_search 71 = .ok (.getfield 37, 3) := by decide +kernel
theorem dX4_search_74 : decode cX4_search 74 = .ok (.invokevirtual 132, 3) := by decide +kernel
theorem dX4_search_77 : decode cX4_search 77 = .ok (.putfield 94, 3) := by decide +kernel
theorem dX4_search_80 : decode cX4_search 80 = .ok (.iconst 1, 1) := by decide +kernel
theorem dX4_search_81 : decode cX4_search 81 = .ok (.ireturn, 1) := by decide +kernel
theorem dX4_search_82 : decode cX4_search 82 = .ok (.iinc 4 1, 3) := by decide +kernel
theorem dX4_search_85 : decode cX4_search 85 = .ok (.goto (-77), 3) := by decide +kernel
theorem dX4_search_88 : decode cX4_search 88 = .ok (.iconst 0, 1) := by decide +kernel
theorem dX4_search_89 : decode cX4_search 89 = .ok (.ireturn, 1) := by decide +kernel
theorem dX4_type_0 : decode cX4_type 0 = .ok (.aload_n 0, 1) := by decide +kernel
theorem dX4_type_1 : decode cX4_type 1 = .ok (.iload_n 1, 1) := by decide +kernel
theorem dX4_type_2 : decode cX4_type 2 = .ok (.invokevirtual 52, 3) := by decide +kernel
theorem dX4_type_5 : decode cX4_type 5 = .ok (.astore 5, 2) := by decide +kernel
theorem dX4_type_7 : decode cX4_type 7 = .ok (.aload 5, 2) := by decide +kernel
theorem dX4_type_9 : decode cX4_type 9 = .ok (.ifnull 16, 3) := by decide +kernel
theorem dX4_type_12 : decode cX4_type 12 = .ok (.iload 4, 2) := by decide +kernel
theorem dX4_type_14 : decode cX4_type 14 = .ok (.iconst 1, 1) := by decide +kernel
theorem dX4_type_15 : decode cX4_type 15 = .ok (.if_icmp .lt 10, 3) := by decide +kernel
theorem dX4_type_18 : decode cX4_type 18 = .ok (.iload 4, 2) := by decide +kernel
theorem dX4_type_20 : decode cX4_type 20 = .ok (.bipush 8, 2) := by decide +kernel
theorem dX4_type_22 : decode cX4_type 22 = .ok (.if_icmp .le 5, 3) := by decide +kernel
theorem dX4_type_25 : decode cX4_type 25 = .ok (.iconst (-1), 1) := by decide +kernel
theorem dX4_type_26 : decode cX4_type 26 = .ok (.ireturn, 1) := by decide +kernel
theorem dX4_type_27 : decode cX4_type 27 = .ok (.aload 5, 2) := by decide +kernel
theorem dX4_type_29 : decode cX4_type 29 = .ok (.invokevirtual 56, 3) := by decide +kernel
theorem dX4_type_32 : decode cX4_type 32 = .ok (.iload 4, 2) := by decide +kernel
theorem dX4_type_34 : decode cX4_type 34 = .ok (.if_icmp .ge 6, 3) := by decide +kernel
theorem dX4_type_37 : decode cX4_type 37 = .ok (.bipush (-3), 2) := by decide +kernel
theorem dX4_type_39 : decode cX4_type 39 = .ok (.ireturn, 1) := by decide +kernel
theorem dX4_type_40 : decode cX4_type 40 = .ok (.iload 4, 2) := by decide +kernel
theorem dX4_type_42 : decode cX4_type 42 = .ok (.iconst 1, 1) := by decide +kernel
theorem dX4_type_43 : decode cX4_type 43 = .ok (.isub, 1) := by decide +kernel
theorem dX4_type_44 : decode cX4_type 44 = .ok (.istore 6, 2) := by decide +kernel
theorem dX4_type_46 : decode cX4_type 46 = .ok (.iload 6, 2) := by decide +kernel
theorem dX4_type_48 : decode cX4_type 48 = .ok (.ifCond .lt 26, 3) := by decide +kernel
theorem dX4_type_51 : decode cX4_type 51 = .ok (.aload 5, 2) := by decide +kernel
theorem dX4_type_53 : decode cX4_type 53 = .ok (.lload_n 2, 1) := by decide +kernel
theorem dX4_type_54 : decode cX4_type 54 = .ok (.bipush 8, 2) := by decide +kernel
theorem dX4_type_56 : decode cX4_type 56 = .ok (.iload 6, 2) := by decide +kernel
theorem dX4_type_58 : decode cX4_type 58 = .ok (.imul, 1) := by decide +kernel
theorem dX4_type_59 : decode cX4_type 59 = .ok (.lushr, 1) := by decide +kernel
theorem dX4_type_60 : decode cX4_type 60 = .ok (.l2i, 1) := by decide +kernel
theorem dX4_type_61 : decode cX4_type 61 = .ok (.sipush 255, 3) := by decide +kernel
theorem dX4_type_64 : decode cX4_type 64 = .ok (.iand, 1) := by decide +kernel
theorem dX4_type_65 : decode cX4_type 65 = .ok (.invokevirtual 60, 3) := by decide +kernel
theorem dX4_type_68 : decode cX4_type 68 = .ok (.iinc 6 (-1), 3) := by decide +kernel
theorem dX4_type_71 : decode cX4_type 71 = .ok (.goto (-25), 3) := by decide +kernel
theorem dX4_type_74 : decode cX4_type 74 = .ok (.aload_n 0, 1) := by decide +kernel
theorem dX4_type_75 : decode cX4_type 75 = .ok (.iconst 0, 1) := by decide +kernel
theorem dX4_type_76 : decode cX4_type 76 = .ok (.putfield 63, 3) := by decide +kernel
theorem dX4_type_79 : decode cX4_type 79 = .ok (.aload 5, 2) := by decide +kernel
theorem dX4_type_81 : decode cX4_type 81 = .ok (.invokevirtual 67, 3) := by decide +kernel
theorem dX4_type_84 : decode cX4_type 84 = .ok (.ireturn, 1) := by decide +kernel
theorem dX4_clear_0 : decode cX4_clear 0 = .ok (.aload_n 0, 1) := by decide +kernel
theorem dX4_clear_1 : decode cX4_clear 1 = .ok (.iload_n 1, 1) := by decide +kernel
theorem dX4_clear_2 : decode cX4_clear 2 = .ok (.invokevirtual 52, 3) := by decide +kernel
theorem dX4_clear_5 : decode cX4_clear 5 = .ok (.astore_n 2, 1) := by decide +kernel
theorem dX4_clear_6 : decode cX4_clear 6 = .ok (.aload_n 2, 1) := by decide +kernel
theorem dX4_clear_7 : decode cX4_clear 7 = .ok (.ifnonnull 5, 3) := by decide +kernel
theorem dX4_clear_10 : decode cX4_clear 10 = .ok (.iconst (-1), 1) := by decide +kernel
theorem dX4_clear_11 : decode cX4_clear 11 = .ok (.ireturn, 1) := by decide +kernel
theorem dX4_clear_12 : decode cX4_clear 12 = .ok (.aload_n 2, 1) := by decide +kernel
theorem dX4_clear_13 : decode cX4_clear 13 = .ok (.invokevirtual 67, 3) := by decide +kernel
theorem dX4_clear_16 : decode cX4_clear 16 = .ok (.istore_n 3, 1) := by decide +kernel
theorem dX4_clear_17 : decode cX4_clear 17 = .ok (.aload_n 2, 1) := by decide +kernel
theorem dX4_clear_18 : decode cX4_clear 18 = .ok (.invokevirtual 70, 3) := by decide +kernel
theorem dX4_clear_21 : decode cX4_clear 21 = .ok (.aload_n 0, 1) := by decide +kernel
theorem dX4_clear_22 : decode cX4_clear 22 = .ok (.iconst 0, 1) := by decide +kernel
theorem dX4_clear_23 : decode cX4_clear 23 = .ok (.putfield 63, 3) := by decide +kernel
theorem dX4_clear_26 : decode cX4_clear 26 = .ok (.iload_n 3, 1) := by decide +kernel
theorem dX4_clear_27 : decode cX4_clear 27 = .ok (.ireturn, 1) := by decide +kernel
theorem dX4_find_0 : decode cX4_find 0 = .ok (.aload_n 0, 1) := by decide +kernel
theorem dX4_find_1 : decode cX4_find 1 = .ok (.getfield 37, 3) := by decide +kernel
theorem dX4_find_4 : decode cX4_find 4 = .ok (.invokevirtual 73, 3) := by decide +kernel
theorem dX4_find_7 : decode cX4_find 7 = .ok (.iload_n 1, 1) := by decide +kernel
theorem dX4_find_8 : decode cX4_find 8 = .ok (.ifCond .lt 14, 3) := by decide +kernel
theorem dX4_find_11 : decode cX4_find 11 = .ok (.iload_n 1, 1) := by decide +kernel
theorem dX4_find_12 : decode cX4_find 12 = .ok (.aload_n 0, 1) := by decide +kernel
theorem dX4_find_13 : decode cX4_find 13 = .ok (.getfield 14, 3) := by decide +kernel
theorem dX4_find_16 : decode cX4_find 16 = .ok (.invokevirtual 67, 3) := by decide +kernel
theorem dX4_find_19 : decode cX4_find 19 = .ok (.if_icmp .le 5, 3) := by decide +kernel
theorem dX4_find_22 : decode cX4_find 22 = .ok (.iconst (-1), 1) := by decide +kernel
theorem dX4_find_23 : decode cX4_find 23 = .ok (.ireturn, 1) := by decide +kernel
theorem dX4_find_24 : decode cX4_find 24 = .ok (.aload_n 0, 1) := by decide +kernel
theorem dX4_find_25 : decode cX4_find 25 = .ok (.invokevirtual 76, 3) := by decide +kernel
theorem dX4_find_28 : decode cX4_find 28 = .ok (.istore_n 2, 1) := by decide +kernel
theorem dX4_find_29 : decode cX4_find 29 = .ok (.aload_n 0, 1) := by decide +kernel
theorem dX4_find_30 : decode cX4_find 30 = .ok (.getfield 30, 3) := by decide +kernel
theorem dX4_find_33 : decode cX4_find 33 = .ok (.aload_n 0, 1) := by decide +kernel
theorem dX4_find_34 : decode cX4_find 34 = .ok (.getfield 18, 3) := by decide +kernel
theorem dX4_find_37 : decode cX4_find 37 = .ok (.iload_n 2, 1) := by decide +kernel
theorem dX4_find_38 : decode cX4_find 38 = .ok (.ifCond .eq 7, 3) := by decide +kernel
theorem dX4_find_41 : decode cX4_find 41 = .ok (.iconst 1, 1) := by decide +kernel
theorem dX4_find_42 : decode cX4_find 42 = .ok (.goto 4, 3) := by decide +kernel
theorem dX4_find_45 : decode cX4_find 45 = .ok (.iconst 0, 1) := by decide +kernel
theorem dX4_find_46 : decode cX4_find 46 = .ok (.invokevirtual 80, 3) := by decide +kernel
theorem dX4_find_49 : decode cX4_find 49 = .ok (.aload_n 0, 1) := by decide +kernel
theorem dX4_find_50 : decode cX4_find 50 = .ok (.iload_n 1, 1) := by decide +kernel
theorem dX4_find_51 : decode cX4_find 51 = .ok (.iload_n 2, 1) := by decide +kernel
theorem dX4_find_52 : decode cX4_find 52 = .ok (.ifCond .eq 7, 3) := by decide +kernel
theorem dX4_find_55 : decode cX4_find 55 = .ok (.iload_n 1, 1) := by decide +kernel
theorem dX4_find_56 : decode cX4_find 56 = .ok (.goto 10, 3) := by decide +kernel
theorem dX4_find_59 : decode cX4_find 59 = .ok (.aload_n 0, 1) := by decide +kernel
theorem dX4_find_60 : decode cX4_find 60 = .ok (.getfield 14, 3) := by decide +kernel
theorem dX4_find_63 : decode cX4_find 63 = .ok (.invokevirtual 67, 3) := by decide +kernel
theorem dX4_find_66 : decode cX4_find 66 = .ok (.iconst (-1), 1) := by decide +kernel
theorem dX4_find_67 : decode cX4_find 67 = .ok (.invokevirtual 84, 3) := by decide +kernel
theorem dX4_find_70 : decode cX4_find 70 = .ok (.ireturn, 1) := by decide +kernel
theorem dX4_begin_0 : decode cX4_begin 0 = .ok (.aload_n 0, 1) := by decide +kernel
theorem dX4_begin_1 : decode cX4_begin 1 = .ok (.iconst 0, 1) := by decide +kernel
theorem dX4_begin_2 : decode cX4_begin 2 = .ok (.putfield 88, 3) := by decide +kernel
theorem dX4_begin_5 : decode cX4_begin 5 = .ok (.aload_n 0, 1) := by decide +kernel
theorem dX4_begin_6 : decode cX4_begin 6 = .ok (.iconst (-1), 1) := by decide +kernel
theorem dX4_begin_7 : decode cX4_begin 7 = .ok (.putfield 48, 3) := by decide +kernel
theorem dX4_begin_10 : decode cX4_begin 10 = .ok (.aload_n 0, 1) := by decide +kernel
theorem dX4_begin_11 : decode cX4_begin 11 = .ok (.iconst 0, 1) := by decide +kernel
theorem dX4_begin_12 : decode cX4_begin 12 = .ok (.putfield 91, 3) := by decide +kernel
theorem dX4_begin_15 : decode cX4_begin 15 = .ok (.return_, 1) := by decide +kernel
theorem dX4_next_0 : decode cX4_next 0 = .ok (.aload_n 0, 1) := by decide +kernel
theorem dX4_next_1 : decode cX4_next 1 = .ok (.getfield 37, 3) := by decide +kernel
theorem dX4_next_4 : decode cX4_next 4 = .ok (.invokevirtual 73, 3) := by decide +kernel
theorem dX4_next_7 : decode cX4_next 7 = .ok (.aload_n 0, 1) := by decide +kernel
theorem dX4_next_8 : decode cX4_next 8 = .ok (.iconst 0, 1) := by decide +kernel
theorem dX4_next_9 : decode cX4_next 9 = .ok (.putfield 63, 3) := by decide +kernel
theorem dX4_next_12 : decode cX4_next 12 = .ok (.aload_n 0, 1) := by decide +kernel
theorem dX4_next_13 : decode cX4_next 13 = .ok (.getfield 91, 3) := by decide +kernel
theorem dX4_next_16 : decode cX4_next 16 = .ok (.ifCond .ne 17, 3) := by decide +kernel
theorem dX4_next_19 : decode cX4_next 19 = .ok (.aload_n 0, 1) := by decide +kernel
theorem dX4_next_20 : decode cX4_next 20 = .ok (.getfield 88, 3) := by decide +kernel
theorem dX4_next_23 : decode cX4_next 23 = .ok (.aload_n 0, 1) := by decide +kernel
theorem dX4_next_24 : decode cX4_next 24 = .ok (.getfield 14, 3) := by decide +kernel
theorem dX4_next_27 : decode cX4_next 27 = .ok (.invokevirtual 67, 3) := by decide +kernel
theorem dX4_next_30 : decode cX4_next 30 = .ok (.if_icmp .le 5, 3) := by decide +kernel
theorem dX4_next_33 : decode cX4_next 33 = .ok (.iconst 0, 1) := by decide +kernel
theorem dX4_next_34 : decode cX4_next 34 = .ok (.ireturn, 1) := by decide +kernel
theorem dX4_next_35 : decode cX4_next 35 = .ok (.aload_n 0, 1) := by decide +kernel
theorem dX4_next_36 : decode cX4_next 36 = .ok (.getfield 30, 3) := by decide +kernel
theorem dX4_next_39 : decode cX4_next 39 = .ok (.aload_n 0, 1) := by decide +kernel
theorem dX4_next_40 : decode cX4_next 40 = .ok (.getfield 18, 3) := by decide +kernel
theorem dX4_next_43 : decode cX4_next 43 = .ok (.iconst 0, 1) := by decide +kernel
theorem dX4_next_44 : decode cX4_next 44 = .ok (.invokevirtual 80, 3) := by decide +kernel
theorem dX4_next_47 : decode cX4_next 47 = .ok (.aload_n 0, 1) := by decide +kernel
theorem dX4_next_48 : decode cX4_next 48 = .ok (.aload_n 0, 1) := by decide +kernel
theorem dX4_next_49 : decode cX4_next 49 = .ok (.getfield 88, 3) := by decide +kernel
theorem dX4_next_52 : decode cX4_next 52 = .ok (.aload_n 0, 1) := by decide +kernel
theorem dX4_next_53 : decode cX4_next 53 = .ok (.getfield 14, 3) := by decide +kernel
theorem dX4_next_56 : decode cX4_next 56 = .ok (.invokevirtual 67, 3) := by decide +kernel
theorem dX4_next_59 : decode cX4_next 59 = .ok (.aload_n 0, 1) := by decide +kernel
theorem dX4_next_60 : decode cX4_next 60 = .ok (.getfield 48, 3) := by decide +kernel
theorem dX4_next_63 : decode cX4_next 63 = .ok (.invokevirtual 84, 3) := by decide +kernel
theorem dX4_next_66 : decode cX4_next 66 = .ok (.istore_n 1, 1) := by decide +kernel
theorem dX4_next_67 : decode cX4_next 67 = .ok (.iload_n 1, 1) := by decide +kernel
theorem dX4_next_68 : decode cX4_next 68 = .ok (.iconst 1, 1) := by decide +kernel
theorem dX4_next_69 : decode cX4_next 69 = .ok (.if_icmp .ne 22, 3) := by decide +kernel
theorem dX4_next_72 : decode cX4_next 72 = .ok (.aload_n 0, 1) := by decide +kernel
theorem dX4_next_73 : decode cX4_next 73 = .ok (.aload_n 0, 1) := by decide +kernel
theorem dX4_next_74 : decode cX4_next 74 = .ok (.getfield 94, 3) := by decide +kernel
theorem dX4_next_77 : decode cX4_next 77 = .ok (.putfield 88, 3) := by decide +kernel
theorem dX4_next_80 : decode cX4_next 80 = .ok (.aload_n 0, 1) := by decide +kernel
theorem dX4_next_81 : decode cX4_next 81 = .ok (.aload_n 0, 1) := by decide +kernel
theorem dX4_next_82 : decode cX4_next 82 = .ok (.getfield 94, 3) := by decide +kernel
theorem dX4_next_85 : decode cX4_next 85 = .ok (.putfield 48, 3) := by decide +kernel
theorem dX4_next_88 : decode cX4_next 88 = .ok (.goto 8, 3) := by decide +kernel
theorem dX4_next_91 : decode cX4_next 91 = .ok (.aload_n 0, 1) := by decide +kernel
theorem dX4_next_92 : decode cX4_next 92 = .ok (.iconst 1, 1) := by decide +kernel
theorem dX4_next_93 : decode cX4_next 93 = .ok (.putfield 91, 3) := by decide +kernel
theorem dX4_next_96 : decode cX4_next 96 = .ok (.iload_n 1, 1) := by decide +kernel
theorem dX4_next_97 : decode cX4_next 97 = .ok (.ireturn, 1) := by decide +kernel
theorem dX4_replace_0 : decode cX4_replace 0 = .ok (.aload_n 0, 1) := by decide +kernel
theorem dX4_replace_1 : decode cX4_replace 1 = .ok (.getfield 37, 3) := by decide +kernel
theorem dX4_replace_4 : decode cX4_replace 4 = .ok (.invokevirtual 73, 3) := by decide +kernel
theorem dX4_replace_7 : decode cX4_replace 7 = .ok (.iload_n 1, 1) := by decide +kernel
theorem dX4_replace_8 : decode cX4_replace 8 = .ok (.ifCond .ge 5, 3) := by decide +kernel
theorem dX4_replace_11 : decode cX4_replace 11 = .ok (.iconst (-1), 1) := by decide +kernel
theorem dX4_replace_12 : decode cX4_replace 12 = .ok (.ireturn, 1) := by decide +kernel
theorem dX4_replace_13 : decode cX4_replace 13 = .ok (.aload_n 0, 1) := by decide +kernel
theorem dX4_replace_14 : decode cX4_replace 14 = .ok (.iconst 0, 1) := by decide +kernel
theorem dX4_replace_15 : decode cX4_replace 15 = .ok (.putfield 63, 3) := by decide +kernel
theorem dX4_replace_18 : decode cX4_replace 18 = .ok (.aload_n 0, 1) := by decide +kernel
theorem dX4_replace_19 : decode cX4_replace 19 = .ok (.getfield 24, 3) := by decide +kernel
theorem dX4_replace_22 : decode cX4_replace 22 = .ok (.invokevirtual 70, 3) := by decide +kernel
theorem dX4_replace_25 : decode cX4_replace 25 = .ok (.aload_n 0, 1) := by decide +kernel
theorem dX4_replace_26 : decode cX4_replace 26 = .ok (.invokevirtual 76, 3) := by decide +kernel
theorem dX4_replace_29 : decode cX4_replace 29 = .ok (.istore_n 2, 1) := by decide +kernel
theorem dX4_replace_30 : decode cX4_replace 30 = .ok (.aload_n 0, 1) := by decide +kernel
theorem dX4_replace_31 : decode cX4_replace 31 = .ok (.getfield 30, 3) := by decide +kernel
theorem dX4_replace_34 : decode cX4_replace 34 = .ok (.aload_n 0, 1) := by decide +kernel
theorem dX4_replace_35 : decode cX4_replace 35 = .ok (.getfield 18, 3) := by decide +kernel
theorem dX4_replace_38 : decode cX4_replace 38 = .ok (.iload_n 2, 1) := by decide +kernel
theorem dX4_replace_39 : decode cX4_replace 39 = .ok (.ifCond .eq 7, 3) := by decide +kernel
theorem dX4_replace_42 : decode cX4_replace 42 = .ok (.iconst 1, 1) := by decide +kernel
theorem dX4_replace_43 : decode cX4_replace 43 = .ok (.goto 4, 3) := by decide +kernel
theorem dX4_replace_46 : decode cX4_replace 46 = .ok (.iconst 0, 1) := by decide +kernel
theorem dX4_replace_47 : decode cX4_replace 47 = .ok (.invokevirtual 80, 3) := by decide +kernel
theorem dX4_replace_50 : decode cX4_replace 50 = .ok (.aload_n 0, 1) := by decide +kernel
theorem dX4_replace_51 : decode cX4_replace 51 = .ok (.iload_n 1, 1) := by decide +kernel
theorem dX4_replace_52 : decode cX4_replace 52 = .ok (.iload_n 2, 1) := by decide +kernel
theorem dX4_replace_53 : decode cX4_replace 53 = .ok (.invokevirtual 97, 3) := by decide +kernel
theorem dX4_replace_56 : decode cX4_replace 56 = .ok (.istore_n 3, 1) := by decide +kernel
theorem dX4_replace_57 : decode cX4_replace 57 = .ok (.iload_n 3, 1) := by decide +kernel
theorem dX4_replace_58 : decode cX4_replace 58 = .ok (.ifCond .ge 10, 3) := by decide +kernel
theorem dX4_replace_61 : decode cX4_replace 61 = .ok (.aload_n 0, 1) := by decide +kernel
theorem dX4_replace_62 : decode cX4_replace 62 = .ok (.getfield 24, 3) := by decide +kernel
theorem dX4_replace_65 : decode cX4_replace 65 = .ok (.invokevirtual 70, 3) := by decide +kernel
theorem dX4_replace_68 : decode cX4_replace 68 = .ok (.iload_n 3, 1) := by decide +kernel
theorem dX4_replace_69 : decode cX4_replace 69 = .ok (.ireturn, 1) := by decide +kernel
theorem dX4_looks_0 : decode cX4_looks 0 = .ok (.aload_n 0, 1) := by decide +kernel
theorem dX4_looks_1 : decode cX4_looks 1 = .ok (.getfield 37, 3) := by decide +kernel
theorem dX4_looks_4 : decode cX4_looks 4 = .ok (.invokevirtual 101, 3) := by decide +kernel
theorem dX4_looks_7 : decode cX4_looks 7 = .ok (.ireturn, 1) := by decide +kernel
theorem dX4_first_0 : decode cX4_first 0 = .ok (.aload_n 0, 1) := by decide +kernel
theorem dX4_first_1 : decode cX4_first 1 = .ok (.getfield 63, 3) := by decide +kernel
theorem dX4_first_4 : decode cX4_first 4 = .ok (.ifCond .eq 10, 3) := by decide +kernel
theorem dX4_first_7 : decode cX4_first 7 = .ok (.aload_n 0, 1) := by decide +kernel
theorem dX4_first_8 : decode cX4_first 8 = .ok (.getfield 104, 3) := by decide +kernel
theorem dX4_first_11 : decode cX4_first 11 = .ok (.goto 4, 3) := by decide +kernel
theorem dX4_first_14 : decode cX4_first 14 = .ok (.iconst (-1), 1) := by decide +kernel
theorem dX4_first_15 : decode cX4_first 15 = .ok (.ireturn, 1) := by decide +kernel
theorem dX4_last_0 : decode cX4_last 0 = .ok (.aload_n 0, 1) := by decide +kernel
theorem dX4_last_1 : decode cX4_last 1 = .ok (.getfield 63, 3) := by decide +kernel
theorem dX4_last_4 : decode cX4_last 4 = .ok (.ifCond .eq 10, 3) := by decide +kernel
theorem dX4_last_7 : decode cX4_last 7 = .ok (.aload_n 0, 1) := by decide +kernel
theorem dX4_last_8 : decode cX4_last 8 = .ok (.getfield 94, 3) := by decide +kernel
theorem dX4_last_11 : decode cX4_last 11 = .ok (.goto 4, 3) := by decide +kernel
theorem dX4_last_14 : decode cX4_last 14 = .ok (.iconst (-1), 1) := by decide +kernel
theorem dX4_last_15 : decode cX4_last 15 = .ok (.ireturn, 1) := by decide +kernel
theorem dX4_captures_0 : decode cX4_captures 0 = .ok (.aload_n 0, 1) := by decide +kernel
theorem dX4_captures_1 : decode cX4_captures 1 = .ok (.getfield 63, 3) := by decide +kernel
theorem dX4_captures_4 : decode cX4_captures 4 = .ok (.ifCond .eq 13, 3) := by decide +kernel
theorem dX4_captures_7 : decode cX4_captures 7 = .ok (.aload_n 0, 1) := by decide +kernel
theorem dX4_captures_8 : decode cX4_captures 8 = .ok (.getfield 30, 3) := by decide +kernel
theorem dX4_captures_11 : decode cX4_captures 11 = .ok (.invokevirtual 107, 3) := by decide +kernel
theorem dX4_captures_14 : decode cX4_captures 14 = .ok (.goto 4, 3) := by decide +kernel
theorem dX4_captures_17 : decode cX4_captures 17 = .ok (.iconst (-1), 1) := by decide +kernel
theorem dX4_captures_18 : decode cX4_captures 18 = .ok (.ireturn, 1) := by decide +kernel
theorem dX4_capture_0 : decode cX4_capture 0 = .ok (.aload_n 0, 1) := by decide +kernel
theorem dX4_capture_1 : decode cX4_capture 1 = .ok (.getfield 63, 3) := by decide +kernel
theorem dX4_capture_4 : decode cX4_capture 4 = .ok (.ifCond .eq 18, 3) := by decide +kernel
theorem dX4_capture_7 : decode cX4_capture 7 = .ok (.iload_n 1, 1) := by decide +kernel
theorem dX4_capture_8 : decode cX4_capture 8 = .ok (.ifCond .lt 14, 3) := by decide +kernel
theorem dX4_capture_11 : decode cX4_capture 11 = .ok (.iload_n 1, 1) := by decide +kernel
theorem dX4_capture_12 : decode cX4_capture 12 = .ok (.aload_n 0, 1) := by decide +kernel
theorem dX4_capture_13 : decode cX4_capture 13 = .ok (.getfield 30, 3) := by decide +kernel
theorem dX4_capture_16 : decode cX4_capture 16 = .ok (.invokevirtual 107, 3) := by decide +kernel
theorem dX4_capture_19 : decode cX4_capture 19 = .ok (.if_icmp .lt 5, 3) := by decide +kernel
theorem dX4_capture_22 : decode cX4_capture 22 = .ok (.iconst (-1), 1) := by decide +kernel
theorem dX4_capture_23 : decode cX4_capture 23 = .ok (.ireturn, 1) := by decide +kernel
theorem dX4_capture_24 : decode cX4_capture 24 = .ok (.iload_n 2, 1) := by decide +kernel
theorem dX4_capture_25 : decode cX4_capture 25 = .ok (.ifCond .ne 12, 3) := by decide +kernel
theorem dX4_capture_28 : decode cX4_capture 28 = .ok (.aload_n 0, 1) := by decide +kernel
theorem dX4_capture_29 : decode cX4_capture 29 = .ok (.getfield 37, 3) := by decide +kernel
theorem dX4_capture_32 : decode cX4_capture 32 = .ok (.iload_n 1, 1) := by decide +kernel
theorem dX4_capture_33 : decode cX4_capture 33 = .ok (.invokevirtual 110, 3) := by decide +kernel
theorem dX4_capture_36 : decode cX4_capture 36 = .ok (.ireturn, 1) := by decide +kernel
theorem dX4_capture_37 : decode cX4_capture 37 = .ok (.iload_n 2, 1) := by decide +kernel
theorem dX4_capture_38 : decode cX4_capture 38 = .ok (.iconst 1, 1) := by decide +kernel
theorem dX4_capture_39 : decode cX4_capture 39 = .ok (.if_icmp .ne 14, 3) := by decide +kernel
theorem dX4_capture_42 : decode cX4_capture 42 = .ok (.aload_n 0, 1) := by decide +kernel
theorem dX4_capture_43 : decode cX4_capture 43 = .ok (.getfield 37, 3) := by decide +kernel
theorem dX4_capture_46 : decode cX4_capture 46 = .ok (.iload_n 1, 1) := by decide +kernel
theorem dX4_capture_47 : decode cX4_capture 47 = .ok (.invokevirtual 114, 3) := by decide +kernel
theorem dX4_capture_50 : decode cX4_capture 50 = .ok (.goto 4, 3) := by decide +kernel
theorem dX4_capture_53 : decode cX4_capture 53 = .ok (.iconst (-1), 1) := by decide +kernel
theorem dX4_capture_54 : decode cX4_capture 54 = .ok (.ireturn, 1) := by decide +kernel
theorem dX4_size_0 : decode cX4_size 0 = .ok (.aload_n 0, 1) := by decide +kernel
theorem dX4_size_1 : decode cX4_size 1 = .ok (.getfield 24, 3) := by decide +kernel
theorem dX4_size_4 : decode cX4_size 4 = .ok (.invokevirtual 67, 3) := by decide +kernel
theorem dX4_size_7 : decode cX4_size 7 = .ok (.ireturn, 1) := by decide +kernel
theorem dX4_result_0 : decode cX4_result 0 = .ok (.aload_n 0, 1) := by decide +kernel
theorem dX4_result_1 : decode cX4_result 1 = .ok (.getfield 24, 3) := by decide +kernel
theorem dX4_result_4 : decode cX4_result 4 = .ok (.iload_n 1, 1) := by decide +kernel
theorem dX4_result_5 : decode cX4_result 5 = .ok (.invokevirtual 117, 3) := by decide +kernel
theorem dX4_result_8 : decode cX4_result 8 = .ok (.istore_n 2, 1) := by decide +kernel
theorem dX4_result_9 : decode cX4_result 9 = .ok (.iload_n 2, 1) := by decide +kernel
theorem dX4_result_10 : decode cX4_result 10 = .ok (.iconst (-1), 1) := by decide +kernel
theorem dX4_result_11 : decode cX4_result 11 = .ok (.if_icmp .ne 7, 3) := by decide +kernel
theorem dX4_result_14 : decode cX4_result 14 = .ok (.iconst (-1), 1) := by decide +kernel
theorem dX4_result_15 : decode cX4_result 15 = .ok (.goto 4, 3) := by decide +kernel
theorem dX4_result_18 : decode cX4_result 18 = .ok (.iload_n 2, 1) := by decide +kernel
theorem dX4_result_19 : decode cX4_result 19 = .ok (.ireturn, 1) := by decide +kernel
theorem dX4_single_0 : decode cX4_single 0 = .ok (.iload_n 1, 1) := by decide +kernel
theorem dX4_single_1 : decode cX4_single 1 = .ok (.ifCond .lt 10, 3) := by decide +kernel
theorem dX4_single_4 : decode cX4_single 4 = .ok (.iload_n 1, 1) := by decide +kernel
theorem dX4_single_5 : decode cX4_single 5 = .ok (.sipush 255, 3) := by decide +kernel
theorem dX4_single_8 : decode cX4_single 8 = .ok (.if_icmp .le 5, 3) := by decide +kernel
theorem dX4_single_11 : decode cX4_single 11 = .ok (.iconst (-1), 1) := by decide +kernel
theorem dX4_single_12 : decode cX4_single 12 = .ok (.ireturn, 1) := by decide +kernel
theorem dX4_single_13 : decode cX4_single 13 = .ok (.aload_n 0, 1) := by decide +kernel
theorem dX4_single_14 : decode cX4_single 14 = .ok (.getfield 44, 3) := by decide +kernel
theorem dX4_single_17 : decode cX4_single 17 = .ok (.iconst 0, 1) := by decide +kernel
theorem dX4_single_18 : decode cX4_single 18 = .ok (.aload_n 0, 1) := by decide +kernel
theorem dX4_single_19 : decode cX4_single 19 = .ok (.getfield 18, 3) := by decide +kernel
theorem dX4_single_22 : decode cX4_single 22 = .ok (.iconst 0, 1) := by decide +kernel
theorem dX4_single_23 : decode cX4_single 23 = .ok (.invokevirtual 120, 3) := by decide +kernel
theorem dX4_single_26 : decode cX4_single 26 = .ok (.istore_n 2, 1) := by decide +kernel
theorem dX4_single_27 : decode cX4_single 27 = .ok (.iload_n 2, 1) := by decide +kernel
theorem dX4_single_28 : decode cX4_single 28 = .ok (.iconst (-1), 1) := by decide +kernel
theorem dX4_single_29 : decode cX4_single 29 = .ok (.if_icmp .eq 14, 3) := by decide +kernel
theorem dX4_single_32 : decode cX4_single 32 = .ok (.iload_n 2, 1) := by decide +kernel
theorem dX4_single_33 : decode cX4_single 33 = .ok (.aload_n 0, 1) := by decide +kernel
theorem dX4_single_34 : decode cX4_single 34 = .ok (.getfield 18, 3) := by decide +kernel
theorem dX4_single_37 : decode cX4_single 37 = .ok (.invokevirtual 67, 3) := by decide +kernel
theorem dX4_single_40 : decode cX4_single 40 = .ok (.if_icmp .eq 6, 3) := by decide +kernel
theorem dX4_single_43 : decode cX4_single 43 = .ok (.bipush (-2), 2) := by decide +kernel
theorem dX4_single_45 : decode cX4_single 45 = .ok (.ireturn, 1) := by decide +kernel
theorem dX4_single_46 : decode cX4_single 46 = .ok (.aload_n 0, 1) := by decide +kernel
theorem dX4_single_47 : decode cX4_single 47 = .ok (.getfield 44, 3) := by decide +kernel
theorem dX4_single_50 : decode cX4_single 50 = .ok (.iconst 0, 1) := by decide +kernel
theorem dX4_single_51 : decode cX4_single 51 = .ok (.iload_n 1, 1) := by decide +kernel
theorem dX4_single_52 : decode cX4_single 52 = .ok (.invokevirtual 124, 3) := by decide +kernel
theorem dX4_single_55 : decode cX4_single 55 = .ok (.ifCond .eq 7, 3) := by decide +kernel
theorem dX4_single_58 : decode cX4_single 58 = .ok (.iconst 1, 1) := by decide +kernel
theorem dX4_single_59 : decode cX4_single 59 = .ok (.goto 4, 3) := by decide +kernel
theorem dX4_single_62 : decode cX4_single 62 = .ok (.iconst 0, 1) := by decide +kernel
theorem dX4_single_63 : decode cX4_single 63 = .ok (.ireturn, 1) := by decide +kernel
theorem dX4_init_0 : decode cX4_init 0 = .ok (.aload_n 0, 1) := by decide +kernel
theorem dX4_init_1 : decode cX4_init 1 = .ok (.invokespecial 3, 3) := by decide +kernel
theorem dX4_init_4 : decode cX4_init 4 = .ok (.aload_n 0, 1) := by decide +kernel
theorem dX4_init_5 : decode cX4_init 5 = .ok (.new 9, 3) := by decide +kernel
theorem dX4_init_8 : decode cX4_init 8 = .ok (.dup, 1) := by decide +kernel
theorem dX4_init_9 : decode cX4_init 9 = .ok (.sipush 4096, 3) := by decide +kernel
theorem dX4_init_12 : decode cX4_init 12 = .ok (.invokespecial 11, 3) := by decide +kernel
theorem dX4_init_15 : decode cX4_init 15 = .ok (.putfield 14, 3) := by decide +kernel
theorem dX4_init_18 : decode cX4_init 18 = .ok (.aload_n 0, 1) := by decide +kernel
theorem dX4_init_19 : decode cX4_init 19 = .ok (.new 9, 3) := by decide +kernel
theorem dX4_init_22 : decode cX4_init 22 = .ok (.dup, 1) := by decide +kernel
theorem dX4_init_23 : decode cX4_init 23 = .ok (.sipush 512, 3) := by decide +kernel
theorem dX4_init_26 : decode cX4_init 26 = .ok (.invokespecial 11, 3) := by decide +kernel
theorem dX4_init_29 : decode cX4_init 29 = .ok (.putfield 18, 3) := by decide +kernel
theorem dX4_init_32 : decode cX4_init 32 = .ok (.aload_n 0, 1) := by decide +kernel
theorem dX4_init_33 : decode cX4_init 33 = .ok (.new 9, 3) := by decide +kernel
theorem dX4_init_36 : decode cX4_init 36 = .ok (.dup, 1) := by decide +kernel
theorem dX4_init_37 : decode cX4_init 37 = .ok (.sipush 512, 3) := by decide +kernel
theorem dX4_init_40 : decode cX4_init 40 = .ok (.invokespecial 11, 3) := by decide +kernel
theorem dX4_init_43 : decode cX4_init 43 = .ok (.putfield 21, 3) := by decide +kernel
theorem dX4_init_46 : decode cX4_init 46 = .ok (.aload_n 0, 1) := by decide +kernel
theorem dX4_init_47 : decode cX4_init 47 = .ok (.new 9, 3) := by decide +kernel
theorem dX4_init_50 : decode cX4_init 50 = .ok (.dup, 1) := by decide +kernel
theorem dX4_init_51 : decode cX4_init 51 = .ok (.sipush 8192, 3) := by decide +kernel
theorem dX4_init_54 : decode cX4_init 54 = .ok (.invokespecial 11, 3) := by decide +kernel
theorem dX4_init_57 : decode cX4_init 57 = .ok (.putfield 24, 3) := by decide +kernel
theorem dX4_init_60 : decode cX4_init 60 = .ok (.aload_n 0, 1) := by decide +kernel
theorem dX4_init_61 : decode cX4_init 61 = .ok (.new 27, 3) := by decide +kernel
theorem dX4_init_64 : decode cX4_init 64 = .ok (.dup, 1) := by decide +kernel
theorem dX4_init_65 : decode cX4_init 65 = .ok (.invokespecial 29, 3) := by decide +kernel
theorem dX4_init_68 : decode cX4_init 68 = .ok (.putfield 30, 3) := by decide +kernel
theorem dX4_init_71 : decode cX4_init 71 = .ok (.aload_n 0, 1) := by decide +kernel
theorem dX4_init_72 : decode cX4_init 72 = .ok (.new 34, 3) := by decide +kernel
theorem dX4_init_75 : decode cX4_init 75 = .ok (.dup, 1) := by decide +kernel
theorem dX4_init_76 : decode cX4_init 76 = .ok (.invokespecial 36, 3) := by decide +kernel
theorem dX4_init_79 : decode cX4_init 79 = .ok (.putfield 37, 3) := by decide +kernel
theorem dX4_init_82 : decode cX4_init 82 = .ok (.aload_n 0, 1) := by decide +kernel
theorem dX4_init_83 : decode cX4_init 83 = .ok (.new 41, 3) := by decide +kernel
theorem dX4_init_86 : decode cX4_init 86 = .ok (.dup, 1) := by decide +kernel
theorem dX4_init_87 : decode cX4_init 87 = .ok (.iconst 1, 1) := by decide +kernel
theorem dX4_init_88 : decode cX4_init 88 = .ok (.invokespecial 43, 3) := by decide +kernel
theorem dX4_init_91 : decode cX4_init 91 = .ok (.putfield 44, 3) := by decide +kernel
theorem dX4_init_94 : decode cX4_init 94 = .ok (.aload_n 0, 1) := by decide +kernel
theorem dX4_init_95 : decode cX4_init 95 = .ok (.iconst (-1), 1) := by decide +kernel
theorem dX4_init_96 : decode cX4_init 96 = .ok (.putfield 48, 3) := by decide +kernel
theorem dX4_init_99 : decode cX4_init 99 = .ok (.return_, 1) := by decide +kernel
