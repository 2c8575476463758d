theorem dX2_captureCount_0 : decode cX2_captureCount 0 = .ok (.aload_n 0, 1) := by decide +kernel
theorem dX2_captureCount_1 : decode cX2_captureCount 1 = .ok (.getfield 33, 3) := by decide +kernel
theorem dX2_captureCount_4 : decode cX2_captureCount 4 = .ok (.ireturn, 1) := by decide +kernel
theorem dX2_kind_0 : decode cX2_kind 0 = .ok (.iload_n 1, 1) := by decide +kernel
theorem dX2_kind_1 : decode cX2_kind 1 = .ok (.ifCond .lt 29, 3) := by decide +kernel
theorem dX2_kind_4 : decode cX2_kind 4 = .ok (.iload_n 1, 1) := by decide +kernel
theorem dX2_kind_5 : decode cX2_kind 5 = .ok (.aload_n 0, 1) := by decide +kernel
theorem dX2_kind_6 : decode cX2_kind 6 = .ok (.getfield 37, 3) := by decide +kernel
theorem dX2_kind_9 : decode cX2_kind 9 = .ok (.if_icmp .ge 21, 3) := by decide +kernel
theorem dX2_kind_12 : decode cX2_kind 12 = .ok (.iload_n 1, 1) := by decide +kernel
theorem dX2_kind_13 : decode cX2_kind 13 = .ok (.aload_n 0, 1) := by decide +kernel
theorem dX2_kind_14 : decode cX2_kind 14 = .ok (.getfield 9, 3) := by decide +kernel
theorem dX2_kind_17 : decode cX2_kind 17 = .ok (.arraylength, 1) := by decide +kernel
theorem dX2_kind_18 : decode cX2_kind 18 = .ok (.if_icmp .ge 12, 3) := by decide +kernel
theorem dX2_kind_21 : decode cX2_kind 21 = .ok (.aload_n 0, 1) := by decide +kernel
theorem dX2_kind_22 : decode cX2_kind 22 = .ok (.getfield 9, 3) := by decide +kernel
theorem dX2_kind_25 : decode cX2_kind 25 = .ok (.iload_n 1, 1) := by decide +kernel
theorem dX2_kind_26 : decode cX2_kind 26 = .ok (.iaload, 1) := by decide +kernel
theorem dX2_kind_27 : decode cX2_kind 27 = .ok (.goto 4, 3) := by decide +kernel
theorem dX2_kind_30 : decode cX2_kind 30 = .ok (.iconst 0, 1) := by decide +kernel
theorem dX2_kind_31 : decode cX2_kind 31 = .ok (.ireturn, 1) := by decide +kernel
theorem dX2_one_0 : decode cX2_one 0 = .ok (.iload_n 1, 1) := by decide +kernel
theorem dX2_one_1 : decode cX2_one 1 = .ok (.ifCond .lt 29, 3) := by decide +kernel
theorem dX2_one_4 : decode cX2_one 4 = .ok (.iload_n 1, 1) := by decide +kernel
theorem dX2_one_5 : decode cX2_one 5 = .ok (.aload_n 0, 1) := by decide +kernel
theorem dX2_one_6 : decode cX2_one 6 = .ok (.getfield 37, 3) := by decide +kernel
theorem dX2_one_9 : decode cX2_one 9 = .ok (.if_icmp .ge 21, 3) := by decide +kernel
theorem dX2_one_12 : decode cX2_one 12 = .ok (.iload_n 1, 1) := by decide +kernel
theorem dX2_one_13 : decode cX2_one 13 = .ok (.aload_n 0, 1) := by decide +kernel
theorem dX2_one_14 : decode cX2_one 14 = .ok (.getfield 15, 3) := by decide +kernel
theorem dX2_one_17 : decode cX2_one 17 = .ok (.arraylength, 1) := by decide +kernel
theorem dX2_one_18 : decode cX2_one 18 = .ok (.if_icmp .ge 12, 3) := by decide +kernel
theorem dX2_one_21 : decode cX2_one 21 = .ok (.aload_n 0, 1) := by decide +kernel
theorem dX2_one_22 : decode cX2_one 22 = .ok (.getfield 15, 3) := by decide +kernel
theorem dX2_one_25 : decode cX2_one 25 = .ok (.iload_n 1, 1) := by decide +kernel
theorem dX2_one_26 : decode cX2_one 26 = .ok (.iaload, 1) := by decide +kernel
theorem dX2_one_27 : decode cX2_one 27 = .ok (.goto 4, 3) := by decide +kernel
theorem dX2_one_30 : decode cX2_one 30 = .ok (.iconst 0, 1) := by decide +kernel
theorem dX2_one_31 : decode cX2_one 31 = .ok (.ireturn, 1) := by decide +kernel
theorem dX2_two_0 : decode cX2_two 0 = .ok (.iload_n 1, 1) := by decide +kernel
theorem dX2_two_1 : decode cX2_two 1 = .ok (.ifCond .lt 29, 3) := by decide +kernel
theorem dX2_two_4 : decode cX2_two 4 = .ok (.iload_n 1, 1) := by decide +kernel
theorem dX2_two_5 : decode cX2_two 5 = .ok (.aload_n 0, 1) := by decide +kernel
theorem dX2_two_6 : decode cX2_two 6 = .ok (.getfield 37, 3) := by decide +kernel
theorem dX2_two_9 : decode cX2_two 9 = .ok (.if_icmp .ge 21, 3) := by decide +kernel
theorem dX2_two_12 : decode cX2_two 12 = .ok (.iload_n 1, 1) := by decide +kernel
theorem dX2_two_13 : decode cX2_two 13 = .ok (.aload_n 0, 1) := by decide +kernel
theorem dX2_two_14 : decode cX2_two 14 = .ok (.getfield 18, 3) := by decide +kernel
theorem dX2_two_17 : decode cX2_two 17 = .ok (.arraylength, 1) := by decide +kernel
theorem dX2_two_18 : decode cX2_two 18 = .ok (.if_icmp .ge 12, 3) := by decide +kernel
theorem dX2_two_21 : decode cX2_two 21 = .ok (.aload_n 0, 1) := by decide +kernel
theorem dX2_two_22 : decode cX2_two 22 = .ok (.getfield 18, 3) := by decide +kernel
theorem dX2_two_25 : decode cX2_two 25 = .ok (.iload_n 1, 1) := by decide +kernel
theorem dX2_two_26 : decode cX2_two 26 = .ok (.iaload, 1) := by decide +kernel
theorem dX2_two_27 : decode cX2_two 27 = .ok (.goto 4, 3) := by decide +kernel
theorem dX2_two_30 : decode cX2_two 30 = .ok (.iconst 0, 1) := by decide +kernel
theorem dX2_two_31 : decode cX2_two 31 = .ok (.ireturn, 1) := by decide +kernel
theorem dX2_latestOpen_0 : decode cX2_latestOpen 0 = .ok (.aload_n 0, 1) := by decide +kernel
theorem dX2_latestOpen_1 : decode cX2_latestOpen 1 = .ok (.getfield 33, 3) := by decide +kernel
theorem dX2_latestOpen_4 : decode cX2_latestOpen 4 = .ok (.aload_n 0, 1) := by decide +kernel
theorem dX2_latestOpen_5 : decode cX2_latestOpen 5 = .ok (.getfield 30, 3) := by decide +kernel
theorem dX2_latestOpen_8 : decode cX2_latestOpen 8 = .ok (.arraylength, 1) := by decide +kernel
theorem dX2_latestOpen_9 : decode cX2_latestOpen 9 = .ok (.invokestatic 87, 3) := by decide +kernel
theorem dX2_latestOpen_12 : decode cX2_latestOpen 12 = .ok (.iconst 1, 1) := by decide +kernel
theorem dX2_latestOpen_13 : decode cX2_latestOpen 13 = .ok (.isub, 1) := by decide +kernel
theorem dX2_latestOpen_14 : decode cX2_latestOpen 14 = .ok (.istore_n 1, 1) := by decide +kernel
theorem dX2_latestOpen_15 : decode cX2_latestOpen 15 = .ok (.iload_n 1, 1) := by decide +kernel
theorem dX2_latestOpen_16 : decode cX2_latestOpen 16 = .ok (.ifCond .lt 21, 3) := by decide +kernel
theorem dX2_latestOpen_19 : decode cX2_latestOpen 19 = .ok (.aload_n 0, 1) := by decide +kernel
theorem dX2_latestOpen_20 : decode cX2_latestOpen 20 = .ok (.getfield 30, 3) := by decide +kernel
theorem dX2_latestOpen_23 : decode cX2_latestOpen 23 = .ok (.iload_n 1, 1) := by decide +kernel
theorem dX2_latestOpen_24 : decode cX2_latestOpen 24 = .ok (.iaload, 1) := by decide +kernel
theorem dX2_latestOpen_25 : decode cX2_latestOpen 25 = .ok (.iconst 4, 1) := by decide +kernel
theorem dX2_latestOpen_26 : decode cX2_latestOpen 26 = .ok (.if_icmp .ne 5, 3) := by decide +kernel
theorem dX2_latestOpen_29 : decode cX2_latestOpen 29 = .ok (.iload_n 1, 1) := by decide +kernel
theorem dX2_latestOpen_30 : decode cX2_latestOpen 30 = .ok (.ireturn, 1) := by decide +kernel
theorem dX2_latestOpen_31 : decode cX2_latestOpen 31 = .ok (.iinc 1 (-1), 3) := by decide +kernel
theorem dX2_latestOpen_34 : decode cX2_latestOpen 34 = .ok (.goto (-19), 3) := by decide +kernel
theorem dX2_latestOpen_37 : decode cX2_latestOpen 37 = .ok (.iconst (-1), 1) := by decide +kernel
theorem dX2_latestOpen_38 : decode cX2_latestOpen 38 = .ok (.ireturn, 1) := by decide +kernel
theorem dX2_add_0 : decode cX2_add 0 = .ok (.aload_n 0, 1) := by decide +kernel
theorem dX2_add_1 : decode cX2_add 1 = .ok (.getfield 37, 3) := by decide +kernel
theorem dX2_add_4 : decode cX2_add 4 = .ok (.aload_n 0, 1) := by decide +kernel
theorem dX2_add_5 : decode cX2_add 5 = .ok (.getfield 9, 3) := by decide +kernel
theorem dX2_add_8 : decode cX2_add 8 = .ok (.arraylength, 1) := by decide +kernel
theorem dX2_add_9 : decode cX2_add 9 = .ok (.if_icmp .ge 67, 3) := by decide +kernel
theorem dX2_add_12 : decode cX2_add 12 = .ok (.aload_n 0, 1) := by decide +kernel
theorem dX2_add_13 : decode cX2_add 13 = .ok (.getfield 37, 3) := by decide +kernel
theorem dX2_add_16 : decode cX2_add 16 = .ok (.aload_n 0, 1) := by decide +kernel
theorem dX2_add_17 : decode cX2_add 17 = .ok (.getfield 15, 3) := by decide +kernel
theorem dX2_add_20 : decode cX2_add 20 = .ok (.arraylength, 1) := by decide +kernel
theorem dX2_add_21 : decode cX2_add 21 = .ok (.if_icmp .ge 55, 3) := by decide +kernel
theorem dX2_add_24 : decode cX2_add 24 = .ok (.aload_n 0, 1) := by decide +kernel
theorem dX2_add_25 : decode cX2_add 25 = .ok (.getfield 37, 3) := by decide +kernel
theorem dX2_add_28 : decode cX2_add 28 = .ok (.aload_n 0, 1) := by decide +kernel
theorem dX2_add_29 : decode cX2_add 29 = .ok (.getfield 18, 3) := by decide +kernel
theorem dX2_add_32 : decode cX2_add 32 = .ok (.arraylength, 1) := by decide +kernel
theorem dX2_add_33 : decode cX2_add 33 = .ok (.if_icmp .ge 43, 3) := by decide +kernel
theorem dX2_add_36 : decode cX2_add 36 = .ok (.aload_n 0, 1) := by decide +kernel
theorem dX2_add_37 : decode cX2_add 37 = .ok (.getfield 9, 3) := by decide +kernel
theorem dX2_add_40 : decode cX2_add 40 = .ok (.aload_n 0, 1) := by decide +kernel
theorem dX2_add_41 : decode cX2_add 41 = .ok (.getfield 37, 3) := by decide +kernel
theorem dX2_add_44 : decode cX2_add 44 = .ok (.iload_n 1, 1) := by decide +kernel
theorem dX2_add_45 : decode cX2_add 45 = .ok (.iastore, 1) := by decide +kernel
theorem dX2_add_46 : decode cX2_add 46 = .ok (.aload_n 0, 1) := by decide +kernel
theorem dX2_add_47 : decode cX2_add 47 = .ok (.getfield 15, 3) := by decide +kernel
theorem dX2_add_50 : decode cX2_add 50 = .ok (.aload_n 0, 1) := by decide +kernel
theorem dX2_add_51 : decode cX2_add 51 = .ok (.getfield 37, 3) := by decide +kernel
theorem dX2_add_54 : decode cX2_add 54 = .ok (.iload_n 2, 1) := by decide +kernel
theorem dX2_add_55 : decode cX2_add 55 = .ok (.iastore, 1) := by decide +kernel
theorem dX2_add_56 : decode cX2_add 56 = .ok (.aload_n 0, 1) := by decide +kernel
theorem dX2_add_57 : decode cX2_add 57 = .ok (.getfield 18, 3) := by decide +kernel
theorem dX2_add_60 : decode cX2_add 60 = .ok (.aload_n 0, 1) := by decide +kernel
theorem dX2_add_61 : decode cX2_add 61 = .ok (.getfield 37, 3) := by decide +kernel
theorem dX2_add_64 : decode cX2_add 64 = .ok (.iload_n 3, 1) := by decide +kernel
theorem dX2_add_65 : decode cX2_add 65 = .ok (.iastore, 1) := by decide +kernel
theorem dX2_add_66 : decode cX2_add 66 = .ok (.aload_n 0, 1) := by decide +kernel
theorem dX2_add_67 : decode cX2_add 67 = .ok (.dup, 1) := by decide +kernel
theorem dX2_add_68 : decode cX2_add 68 = .ok (.getfield 37, 3) := by decide +kernel
theorem dX2_add_71 : decode cX2_add 71 = .ok (.iconst 1, 1) := by decide +kernel
theorem dX2_add_72 : decode cX2_add 72 = .ok (.iadd, 1) := by decide +kernel
theorem dX2_add_73 : decode cX2_add 73 = .ok (.putfield 37, 3) := by decide +kernel
theorem dX2_add_76 : decode cX2_add 76 = .ok (.return_, 1) := by decide +kernel
theorem dX2_kindAt_0 : decode cX2_kindAt 0 = .ok (.aload_n 0, 1) := by decide +kernel
theorem dX2_kindAt_1 : decode cX2_kindAt 1 = .ok (.iload_n 1, 1) := by decide +kernel
theorem dX2_kindAt_2 : decode cX2_kindAt 2 = .ok (.invokevirtual 64, 3) := by decide +kernel
theorem dX2_kindAt_5 : decode cX2_kindAt 5 = .ok (.istore_n 2, 1) := by decide +kernel
theorem dX2_kindAt_6 : decode cX2_kindAt 6 = .ok (.aload_n 0, 1) := by decide +kernel
theorem dX2_kindAt_7 : decode cX2_kindAt 7 = .ok (.iload_n 1, 1) := by decide +kernel
theorem dX2_kindAt_8 : decode cX2_kindAt 8 = .ok (.iconst 1, 1) := by decide +kernel
theorem dX2_kindAt_9 : decode cX2_kindAt 9 = .ok (.iadd, 1) := by decide +kernel
theorem dX2_kindAt_10 : decode cX2_kindAt 10 = .ok (.invokevirtual 64, 3) := by decide +kernel
theorem dX2_kindAt_13 : decode cX2_kindAt 13 = .ok (.istore_n 3, 1) := by decide +kernel
theorem dX2_kindAt_14 : decode cX2_kindAt 14 = .ok (.iload_n 2, 1) := by decide +kernel
theorem dX2_kindAt_15 : decode cX2_kindAt 15 = .ok (.bipush 40, 2) := by decide +kernel
theorem dX2_kindAt_17 : decode cX2_kindAt 17 = .ok (.if_icmp .ne 16, 3) := by decide +kernel
theorem dX2_kindAt_20 : decode cX2_kindAt 20 = .ok (.iload_n 3, 1) := by decide +kernel
theorem dX2_kindAt_21 : decode cX2_kindAt 21 = .ok (.bipush 41, 2) := by decide +kernel
theorem dX2_kindAt_23 : decode cX2_kindAt 23 = .ok (.if_icmp .ne 8, 3) := by decide +kernel
theorem dX2_kindAt_26 : decode cX2_kindAt 26 = .ok (.bipush 6, 2) := by decide +kernel
theorem dX2_kindAt_28 : decode cX2_kindAt 28 = .ok (.goto 4, 3) := by decide +kernel
theorem dX2_kindAt_31 : decode cX2_kindAt 31 = .ok (.iconst 4, 1) := by decide +kernel
theorem dX2_kindAt_32 : decode cX2_kindAt 32 = .ok (.ireturn, 1) := by decide +kernel
theorem dX2_kindAt_33 : decode cX2_kindAt 33 = .ok (.iload_n 2, 1) := by decide +kernel
theorem dX2_kindAt_34 : decode cX2_kindAt 34 = .ok (.bipush 41, 2) := by decide +kernel
theorem dX2_kindAt_36 : decode cX2_kindAt 36 = .ok (.if_icmp .ne 5, 3) := by decide +kernel
theorem dX2_kindAt_39 : decode cX2_kindAt 39 = .ok (.iconst 5, 1) := by decide +kernel
theorem dX2_kindAt_40 : decode cX2_kindAt 40 = .ok (.ireturn, 1) := by decide +kernel
theorem dX2_kindAt_41 : decode cX2_kindAt 41 = .ok (.iload_n 2, 1) := by decide +kernel
theorem dX2_kindAt_42 : decode cX2_kindAt 42 = .ok (.bipush 36, 2) := by decide +kernel
theorem dX2_kindAt_44 : decode cX2_kindAt 44 = .ok (.if_icmp .ne 11, 3) := by decide +kernel
theorem dX2_kindAt_47 : decode cX2_kindAt 47 = .ok (.iload_n 3, 1) := by decide +kernel
theorem dX2_kindAt_48 : decode cX2_kindAt 48 = .ok (.iconst (-1), 1) := by decide +kernel
theorem dX2_kindAt_49 : decode cX2_kindAt 49 = .ok (.if_icmp .ne 6, 3) := by decide +kernel
theorem dX2_kindAt_52 : decode cX2_kindAt 52 = .ok (.bipush 10, 2) := by decide +kernel
theorem dX2_kindAt_54 : decode cX2_kindAt 54 = .ok (.ireturn, 1) := by decide +kernel
theorem dX2_kindAt_55 : decode cX2_kindAt 55 = .ok (.iload_n 2, 1) := by decide +kernel
theorem dX2_kindAt_56 : decode cX2_kindAt 56 = .ok (.bipush 37, 2) := by decide +kernel
theorem dX2_kindAt_58 : decode cX2_kindAt 58 = .ok (.if_icmp .eq 5, 3) := by decide +kernel
theorem dX2_kindAt_61 : decode cX2_kindAt 61 = .ok (.iconst 2, 1) := by decide +kernel
theorem dX2_kindAt_62 : decode cX2_kindAt 62 = .ok (.ireturn, 1) := by decide +kernel
theorem dX2_kindAt_63 : decode cX2_kindAt 63 = .ok (.iload_n 3, 1) := by decide +kernel
theorem dX2_kindAt_64 : decode cX2_kindAt 64 = .ok (.bipush 98, 2) := by decide +kernel
theorem dX2_kindAt_66 : decode cX2_kindAt 66 = .ok (.if_icmp .ne 6, 3) := by decide +kernel
theorem dX2_kindAt_69 : decode cX2_kindAt 69 = .ok (.bipush 8, 2) := by decide +kernel
theorem dX2_kindAt_71 : decode cX2_kindAt 71 = .ok (.ireturn, 1) := by decide +kernel
theorem dX2_kindAt_72 : decode cX2_kindAt 72 = .ok (.iload_n 3, 1) := by decide +kernel
theorem dX2_kindAt_73 : decode cX2_kindAt 73 = .ok (.bipush 102, 2) := by decide +kernel
theorem dX2_kindAt_75 : decode cX2_kindAt 75 = .ok (.if_icmp .ne 6, 3) := by decide +kernel
theorem dX2_kindAt_78 : decode cX2_kindAt 78 = .ok (.bipush 9, 2) := by decide +kernel
theorem dX2_kindAt_80 : decode cX2_kindAt 80 = .ok (.ireturn, 1) := by decide +kernel
theorem dX2_kindAt_81 : decode cX2_kindAt 81 = .ok (.iload_n 3, 1) := by decide +kernel
theorem dX2_kindAt_82 : decode cX2_kindAt 82 = .ok (.bipush 49, 2) := by decide +kernel
theorem dX2_kindAt_84 : decode cX2_kindAt 84 = .ok (.if_icmp .lt 14, 3) := by decide +kernel
theorem dX2_kindAt_87 : decode cX2_kindAt 87 = .ok (.iload_n 3, 1) := by decide +kernel
theorem dX2_kindAt_88 : decode cX2_kindAt 88 = .ok (.bipush 57, 2) := by decide +kernel
theorem dX2_kindAt_90 : decode cX2_kindAt 90 = .ok (.if_icmp .gt 8, 3) := by decide +kernel
theorem dX2_kindAt_93 : decode cX2_kindAt 93 = .ok (.bipush 7, 2) := by decide +kernel
theorem dX2_kindAt_95 : decode cX2_kindAt 95 = .ok (.goto 4, 3) := by decide +kernel
theorem dX2_kindAt_98 : decode cX2_kindAt 98 = .ok (.iconst 2, 1) := by decide +kernel
theorem dX2_kindAt_99 : decode cX2_kindAt 99 = .ok (.ireturn, 1) := by decide +kernel
theorem dX2_readOpening_0 : decode cX2_readOpening 0 = .ok (.aload_n 0, 1) := by decide +kernel
theorem dX2_readOpening_1 : decode cX2_readOpening 1 = .ok (.getfield 33, 3) := by decide +kernel
theorem dX2_readOpening_4 : decode cX2_readOpening 4 = .ok (.aload_n 0, 1) := by decide +kernel
theorem dX2_readOpening_5 : decode cX2_readOpening 5 = .ok (.getfield 30, 3) := by decide +kernel
theorem dX2_readOpening_8 : decode cX2_readOpening 8 = .ok (.arraylength, 1) := by decide +kernel
theorem dX2_readOpening_9 : decode cX2_readOpening 9 = .ok (.if_icmp .lt 5, 3) := by decide +kernel
theorem dX2_readOpening_12 : decode cX2_readOpening 12 = .ok (.iconst (-1), 1) := by decide +kernel
theorem dX2_readOpening_13 : decode cX2_readOpening 13 = .ok (.ireturn, 1) := by decide +kernel
theorem dX2_readOpening_14 : decode cX2_readOpening 14 = .ok (.aload_n 0, 1) := by decide +kernel
theorem dX2_readOpening_15 : decode cX2_readOpening 15 = .ok (.getfield 30, 3) := by decide +kernel
theorem dX2_readOpening_18 : decode cX2_readOpening 18 = .ok (.aload_n 0, 1) := by decide +kernel
theorem dX2_readOpening_19 : decode cX2_readOpening 19 = .ok (.getfield 33, 3) := by decide +kernel
theorem dX2_readOpening_22 : decode cX2_readOpening 22 = .ok (.iload_n 1, 1) := by decide +kernel
theorem dX2_readOpening_23 : decode cX2_readOpening 23 = .ok (.iastore, 1) := by decide +kernel
theorem dX2_readOpening_24 : decode cX2_readOpening 24 = .ok (.aload_n 0, 1) := by decide +kernel
theorem dX2_readOpening_25 : decode cX2_readOpening 25 = .ok (.iload_n 1, 1) := by decide +kernel
theorem dX2_readOpening_26 : decode cX2_readOpening 26 = .ok (.aload_n 0, 1) := by decide +kernel
theorem dX2_readOpening_27 : decode cX2_readOpening 27 = .ok (.getfield 33, 3) := by decide +kernel
theorem dX2_readOpening_30 : decode cX2_readOpening 30 = .ok (.iconst 0, 1) := by decide +kernel
theorem dX2_readOpening_31 : decode cX2_readOpening 31 = .ok (.invokevirtual 60, 3) := by decide +kernel
theorem dX2_readOpening_34 : decode cX2_readOpening 34 = .ok (.aload_n 0, 1) := by decide +kernel
theorem dX2_readOpening_35 : decode cX2_readOpening 35 = .ok (.dup, 1) := by decide +kernel
theorem dX2_readOpening_36 : decode cX2_readOpening 36 = .ok (.getfield 33, 3) := by decide +kernel
theorem dX2_readOpening_39 : decode cX2_readOpening 39 = .ok (.iconst 1, 1) := by decide +kernel
theorem dX2_readOpening_40 : decode cX2_readOpening 40 = .ok (.iadd, 1) := by decide +kernel
theorem dX2_readOpening_41 : decode cX2_readOpening 41 = .ok (.putfield 33, 3) := by decide +kernel
theorem dX2_readOpening_44 : decode cX2_readOpening 44 = .ok (.iload_n 2, 1) := by decide +kernel
theorem dX2_readOpening_45 : decode cX2_readOpening 45 = .ok (.ireturn, 1) := by decide +kernel
theorem dX2_readClosing_0 : decode cX2_readClosing 0 = .ok (.aload_n 0, 1) := by decide +kernel
theorem dX2_readClosing_1 : decode cX2_readClosing 1 = .ok (.invokevirtual 57, 3) := by decide +kernel
theorem dX2_readClosing_4 : decode cX2_readClosing 4 = .ok (.istore_n 2, 1) := by decide +kernel
theorem dX2_readClosing_5 : decode cX2_readClosing 5 = .ok (.iload_n 2, 1) := by decide +kernel
theorem dX2_readClosing_6 : decode cX2_readClosing 6 = .ok (.ifCond .lt 12, 3) := by decide +kernel
theorem dX2_readClosing_9 : decode cX2_readClosing 9 = .ok (.iload_n 2, 1) := by decide +kernel
theorem dX2_readClosing_10 : decode cX2_readClosing 10 = .ok (.aload_n 0, 1) := by decide +kernel
theorem dX2_readClosing_11 : decode cX2_readClosing 11 = .ok (.getfield 30, 3) := by decide +kernel
theorem dX2_readClosing_14 : decode cX2_readClosing 14 = .ok (.arraylength, 1) := by decide +kernel
theorem dX2_readClosing_15 : decode cX2_readClosing 15 = .ok (.if_icmp .lt 5, 3) := by decide +kernel
theorem dX2_readClosing_18 : decode cX2_readClosing 18 = .ok (.iconst (-1), 1) := by decide +kernel
theorem dX2_readClosing_19 : decode cX2_readClosing 19 = .ok (.ireturn, 1) := by decide +kernel
theorem dX2_readClosing_20 : decode cX2_readClosing 20 = .ok (.aload_n 0, 1) := by decide +kernel
theorem dX2_readClosing_21 : decode cX2_readClosing 21 = .ok (.getfield 30, 3) := by decide +kernel
theorem dX2_readClosing_24 : decode cX2_readClosing 24 = .ok (.iload_n 2, 1) := by decide +kernel
theorem dX2_readClosing_25 : decode cX2_readClosing 25 = .ok (.iconst 5, 1) := by decide +kernel
theorem dX2_readClosing_26 : decode cX2_readClosing 26 = .ok (.iastore, 1) := by decide +kernel
theorem dX2_readClosing_27 : decode cX2_readClosing 27 = .ok (.aload_n 0, 1) := by decide +kernel
theorem dX2_readClosing_28 : decode cX2_readClosing 28 = .ok (.iconst 5, 1) := by decide +kernel
theorem dX2_readClosing_29 : decode cX2_readClosing 29 = .ok (.iload_n 2, 1) := by decide +kernel
theorem dX2_readClosing_30 : decode cX2_readClosing 30 = .ok (.iconst 0, 1) := by decide +kernel
theorem dX2_readClosing_31 : decode cX2_readClosing 31 = .ok (.invokevirtual 60, 3) := by decide +kernel
theorem dX2_readClosing_34 : decode cX2_readClosing 34 = .ok (.iload_n 1, 1) := by decide +kernel
theorem dX2_readClosing_35 : decode cX2_readClosing 35 = .ok (.ireturn, 1) := by decide +kernel
theorem dX2_readSame_0 : decode cX2_readSame 0 = .ok (.iload_n 1, 1) := by decide +kernel
theorem dX2_readSame_1 : decode cX2_readSame 1 = .ok (.ifCond .lt 30, 3) := by decide +kernel
theorem dX2_readSame_4 : decode cX2_readSame 4 = .ok (.iload_n 1, 1) := by decide +kernel
theorem dX2_readSame_5 : decode cX2_readSame 5 = .ok (.aload_n 0, 1) := by decide +kernel
theorem dX2_readSame_6 : decode cX2_readSame 6 = .ok (.getfield 33, 3) := by decide +kernel
theorem dX2_readSame_9 : decode cX2_readSame 9 = .ok (.if_icmp .ge 22, 3) := by decide +kernel
theorem dX2_readSame_12 : decode cX2_readSame 12 = .ok (.iload_n 1, 1) := by decide +kernel
theorem dX2_readSame_13 : decode cX2_readSame 13 = .ok (.aload_n 0, 1) := by decide +kernel
theorem dX2_readSame_14 : decode cX2_readSame 14 = .ok (.getfield 30, 3) := by decide +kernel
theorem dX2_readSame_17 : decode cX2_readSame 17 = .ok (.arraylength, 1) := by decide +kernel
theorem dX2_readSame_18 : decode cX2_readSame 18 = .ok (.if_icmp .ge 13, 3) := by decide +kernel
theorem dX2_readSame_21 : decode cX2_readSame 21 = .ok (.aload_n 0, 1) := by decide +kernel
theorem dX2_readSame_22 : decode cX2_readSame 22 = .ok (.getfield 30, 3) := by decide +kernel
theorem dX2_readSame_25 : decode cX2_readSame 25 = .ok (.iload_n 1, 1) := by decide +kernel
theorem dX2_readSame_26 : decode cX2_readSame 26 = .ok (.iaload, 1) := by decide +kernel
theorem dX2_readSame_27 : decode cX2_readSame 27 = .ok (.iconst 5, 1) := by decide +kernel
theorem dX2_readSame_28 : decode cX2_readSame 28 = .ok (.if_icmp .eq 5, 3) := by decide +kernel
theorem dX2_readSame_31 : decode cX2_readSame 31 = .ok (.iconst (-1), 1) := by decide +kernel
theorem dX2_readSame_32 : decode cX2_readSame 32 = .ok (.ireturn, 1) := by decide +kernel
theorem dX2_readSame_33 : decode cX2_readSame 33 = .ok (.aload_n 0, 1) := by decide +kernel
theorem dX2_readSame_34 : decode cX2_readSame 34 = .ok (.bipush 7, 2) := by decide +kernel
theorem dX2_readSame_36 : decode cX2_readSame 36 = .ok (.iload_n 1, 1) := by decide +kernel
theorem dX2_readSame_37 : decode cX2_readSame 37 = .ok (.iconst 0, 1) := by decide +kernel
theorem dX2_readSame_38 : decode cX2_readSame 38 = .ok (.invokevirtual 60, 3) := by decide +kernel
theorem dX2_readSame_41 : decode cX2_readSame 41 = .ok (.iload_n 2, 1) := by decide +kernel
theorem dX2_readSame_42 : decode cX2_readSame 42 = .ok (.ireturn, 1) := by decide +kernel
theorem dX2_readPair_0 : decode cX2_readPair 0 = .ok (.aload_n 1, 1) := by decide +kernel
theorem dX2_readPair_1 : decode cX2_readPair 1 = .ok (.iload_n 2, 1) := by decide +kernel
theorem dX2_readPair_2 : decode cX2_readPair 2 = .ok (.invokevirtual 64, 3) := by decide +kernel
theorem dX2_readPair_5 : decode cX2_readPair 5 = .ok (.iconst (-1), 1) := by decide +kernel
theorem dX2_readPair_6 : decode cX2_readPair 6 = .ok (.if_icmp .eq 14, 3) := by decide +kernel
theorem dX2_readPair_9 : decode cX2_readPair 9 = .ok (.aload_n 1, 1) := by decide +kernel
theorem dX2_readPair_10 : decode cX2_readPair 10 = .ok (.iload_n 2, 1) := by decide +kernel
theorem dX2_readPair_11 : decode cX2_readPair 11 = .ok (.iconst 1, 1) := by decide +kernel
theorem dX2_readPair_12 : decode cX2_readPair 12 = .ok (.iadd, 1) := by decide +kernel
theorem dX2_readPair_13 : decode cX2_readPair 13 = .ok (.invokevirtual 64, 3) := by decide +kernel
theorem dX2_readPair_16 : decode cX2_readPair 16 = .ok (.iconst (-1), 1) := by decide +kernel
theorem dX2_readPair_17 : decode cX2_readPair 17 = .ok (.if_icmp .ne 5, 3) := by decide +kernel
theorem dX2_readPair_20 : decode cX2_readPair 20 = .ok (.iconst (-1), 1) := by decide +kernel
theorem dX2_readPair_21 : decode cX2_readPair 21 = .ok (.ireturn, 1) := by decide +kernel
theorem dX2_readPair_22 : decode cX2_readPair 22 = .ok (.aload_n 0, 1) := by decide +kernel
theorem dX2_readPair_23 : decode cX2_readPair 23 = .ok (.bipush 8, 2) := by decide +kernel
theorem dX2_readPair_25 : decode cX2_readPair 25 = .ok (.aload_n 1, 1) := by decide +kernel
theorem dX2_readPair_26 : decode cX2_readPair 26 = .ok (.iload_n 2, 1) := by decide +kernel
theorem dX2_readPair_27 : decode cX2_readPair 27 = .ok (.invokevirtual 64, 3) := by decide +kernel
theorem dX2_readPair_30 : decode cX2_readPair 30 = .ok (.aload_n 1, 1) := by decide +kernel
theorem dX2_readPair_31 : decode cX2_readPair 31 = .ok (.iload_n 2, 1) := by decide +kernel
theorem dX2_readPair_32 : decode cX2_readPair 32 = .ok (.iconst 1, 1) := by decide +kernel
theorem dX2_readPair_33 : decode cX2_readPair 33 = .ok (.iadd, 1) := by decide +kernel
theorem dX2_readPair_34 : decode cX2_readPair 34 = .ok (.invokevirtual 64, 3) := by decide +kernel
theorem dX2_readPair_37 : decode cX2_readPair 37 = .ok (.invokevirtual 60, 3) := by decide +kernel
theorem dX2_readPair_40 : decode cX2_readPair 40 = .ok (.iload_n 2, 1) := by decide +kernel
theorem dX2_readPair_41 : decode cX2_readPair 41 = .ok (.iconst 2, 1) := by decide +kernel
theorem dX2_readPair_42 : decode cX2_readPair 42 = .ok (.iadd, 1) := by decide +kernel
theorem dX2_readPair_43 : decode cX2_readPair 43 = .ok (.ireturn, 1) := by decide +kernel
theorem dX2_readBorder_0 : decode cX2_readBorder 0 = .ok (.aload_n 1, 1) := by decide +kernel
theorem dX2_readBorder_1 : decode cX2_readBorder 1 = .ok (.iload_n 2, 1) := by decide +kernel
theorem dX2_readBorder_2 : decode cX2_readBorder 2 = .ok (.invokevirtual 64, 3) := by decide +kernel
theorem dX2_readBorder_5 : decode cX2_readBorder 5 = .ok (.bipush 91, 2) := by decide +kernel
theorem dX2_readBorder_7 : decode cX2_readBorder 7 = .ok (.if_icmp .eq 5, 3) := by decide +kernel
theorem dX2_readBorder_10 : decode cX2_readBorder 10 = .ok (.iconst (-1), 1) := by decide +kernel
theorem dX2_readBorder_11 : decode cX2_readBorder 11 = .ok (.ireturn, 1) := by decide +kernel
theorem dX2_readBorder_12 : decode cX2_readBorder 12 = .ok (.aload_n 0, 1) := by decide +kernel
theorem dX2_readBorder_13 : decode cX2_readBorder 13 = .ok (.getfield 26, 3) := by decide +kernel
theorem dX2_readBorder_16 : decode cX2_readBorder 16 = .ok (.aload_n 0, 1) := by decide +kernel
theorem dX2_readBorder_17 : decode cX2_readBorder 17 = .ok (.getfield 37, 3) := by decide +kernel
theorem dX2_readBorder_20 : decode cX2_readBorder 20 = .ok (.aload_n 1, 1) := by decide +kernel
theorem dX2_readBorder_21 : decode cX2_readBorder 21 = .ok (.iload_n 2, 1) := by decide +kernel
theorem dX2_readBorder_22 : decode cX2_readBorder 22 = .ok (.invokevirtual 68, 3) := by decide +kernel
theorem dX2_readBorder_25 : decode cX2_readBorder 25 = .ok (.istore_n 3, 1) := by decide +kernel
theorem dX2_readBorder_26 : decode cX2_readBorder 26 = .ok (.iload_n 3, 1) := by decide +kernel
theorem dX2_readBorder_27 : decode cX2_readBorder 27 = .ok (.iconst (-1), 1) := by decide +kernel
theorem dX2_readBorder_28 : decode cX2_readBorder 28 = .ok (.if_icmp .eq 11, 3) := by decide +kernel
theorem dX2_readBorder_31 : decode cX2_readBorder 31 = .ok (.aload_n 0, 1) := by decide +kernel
theorem dX2_readBorder_32 : decode cX2_readBorder 32 = .ok (.bipush 9, 2) := by decide +kernel
theorem dX2_readBorder_34 : decode cX2_readBorder 34 = .ok (.iconst 0, 1) := by decide +kernel
theorem dX2_readBorder_35 : decode cX2_readBorder 35 = .ok (.iconst 0, 1) := by decide +kernel
theorem dX2_readBorder_36 : decode cX2_readBorder 36 = .ok (.invokevirtual 60, 3) := by decide +kernel
theorem dX2_readBorder_39 : decode cX2_readBorder 39 = .ok (.iload_n 3, 1) := by decide +kernel
theorem dX2_readBorder_40 : decode cX2_readBorder 40 = .ok (.ireturn, 1) := by decide +kernel
theorem dX2_readRepeated_0 : decode cX2_readRepeated 0 = .ok (.aload_n 0, 1) := by decide +kernel
theorem dX2_readRepeated_1 : decode cX2_readRepeated 1 = .ok (.getfield 26, 3) := by decide +kernel
theorem dX2_readRepeated_4 : decode cX2_readRepeated 4 = .ok (.aload_n 0, 1) := by decide +kernel
theorem dX2_readRepeated_5 : decode cX2_readRepeated 5 = .ok (.getfield 37, 3) := by decide +kernel
theorem dX2_readRepeated_8 : decode cX2_readRepeated 8 = .ok (.aload_n 1, 1) := by decide +kernel
theorem dX2_readRepeated_9 : decode cX2_readRepeated 9 = .ok (.iload_n 2, 1) := by decide +kernel
theorem dX2_readRepeated_10 : decode cX2_readRepeated 10 = .ok (.invokevirtual 68, 3) := by decide +kernel
theorem dX2_readRepeated_13 : decode cX2_readRepeated 13 = .ok (.istore_n 3, 1) := by decide +kernel
theorem dX2_readRepeated_14 : decode cX2_readRepeated 14 = .ok (.iload_n 3, 1) := by decide +kernel
theorem dX2_readRepeated_15 : decode cX2_readRepeated 15 = .ok (.iconst (-1), 1) := by decide +kernel
theorem dX2_readRepeated_16 : decode cX2_readRepeated 16 = .ok (.if_icmp .ne 5, 3) := by decide +kernel
theorem dX2_readRepeated_19 : decode cX2_readRepeated 19 = .ok (.iconst (-1), 1) := by decide +kernel
theorem dX2_readRepeated_20 : decode cX2_readRepeated 20 = .ok (.ireturn, 1) := by decide +kernel
theorem dX2_readRepeated_21 : decode cX2_readRepeated 21 = .ok (.aload_n 1, 1) := by decide +kernel
theorem dX2_readRepeated_22 : decode cX2_readRepeated 22 = .ok (.iload_n 3, 1) := by decide +kernel
theorem dX2_readRepeated_23 : decode cX2_readRepeated 23 = .ok (.invokevirtual 64, 3) := by decide +kernel
theorem dX2_readRepeated_26 : decode cX2_readRepeated 26 = .ok (.lookupswitch 90 #[(42, 53), (43, 66), (45, 79), (63, 42)], 42) := by decide +kernel
theorem dX2_readRepeated_68 : decode cX2_readRepeated 68 = .ok (.aload_n 0, 1) := by decide +kernel
theorem dX2_readRepeated_69 : decode cX2_readRepeated 69 = .ok (.iconst 2, 1) := by decide +kernel
theorem dX2_readRepeated_70 : decode cX2_readRepeated 70 = .ok (.iconst 0, 1) := by decide +kernel
theorem dX2_readRepeated_71 : decode cX2_readRepeated 71 = .ok (.iconst 1, 1) := by decide +kernel
theorem dX2_readRepeated_72 : decode cX2_readRepeated 72 = .ok (.invokevirtual 60, 3) := by decide +kernel
theorem dX2_readRepeated_75 : decode cX2_readRepeated 75 = .ok (.iload_n 3, 1) := by decide +kernel
theorem dX2_readRepeated_76 : decode cX2_readRepeated 76 = .ok (.iconst 1, 1) := by decide +kernel
theorem dX2_readRepeated_77 : decode cX2_readRepeated 77 = .ok (.iadd, 1) := by decide +kernel
theorem dX2_readRepeated_78 : decode cX2_readRepeated 78 = .ok (.ireturn, 1) := by decide +kernel
theorem dX2_readRepeated_79 : decode cX2_readRepeated 79 = .ok (.aload_n 0, 1) := by decide +kernel
theorem dX2_readRepeated_80 : decode cX2_readRepeated 80 = .ok (.iconst 2, 1) := by decide +kernel
theorem dX2_readRepeated_81 : decode cX2_readRepeated 81 = .ok (.iconst 0, 1) := by decide +kernel
theorem dX2_readRepeated_82 : decode cX2_readRepeated 82 = .ok (.sipush 4096, 3) := by decide +kernel
theorem dX2_readRepeated_85 : decode cX2_readRepeated 85 = .ok (.invokevirtual 60, 3) := by decide +kernel
theorem dX2_readRepeated_88 : decode cX2_readRepeated 88 = .ok (.iload_n 3, 1) := by decide +kernel
theorem dX2_readRepeated_89 : decode cX2_readRepeated 89 = .ok (.iconst 1, 1) := by decide +kernel
theorem dX2_readRepeated_90 : decode cX2_readRepeated 90 = .ok (.iadd, 1) := by decide +kernel
theorem dX2_readRepeated_91 : decode cX2_readRepeated 91 = .ok (.ireturn, 1) := by decide +kernel
theorem dX2_readRepeated_92 : decode cX2_readRepeated 92 = .ok (.aload_n 0, 1) := by decide +kernel
theorem dX2_readRepeated_93 : decode cX2_readRepeated 93 = .ok (.iconst 2, 1) := by decide +kernel
theorem dX2_readRepeated_94 : decode cX2_readRepeated 94 = .ok (.iconst 1, 1) := by decide +kernel
theorem dX2_readRepeated_95 : decode cX2_readRepeated 95 = .ok (.sipush 4096, 3) := by decide +kernel
theorem dX2_readRepeated_98 : decode cX2_readRepeated 98 = .ok (.invokevirtual 60, 3) := by decide +kernel
theorem dX2_readRepeated_101 : decode cX2_readRepeated 101 = .ok (.iload_n 3, 1) := by decide +kernel
theorem dX2_readRepeated_102 : decode cX2_readRepeated 102 = .ok (.iconst 1, 1) := by decide +kernel
theorem dX2_readRepeated_103 : decode cX2_readRepeated 103 = .ok (.iadd, 1) := by decide +kernel
theorem dX2_readRepeated_104 : decode cX2_readRepeated 104 = .ok (.ireturn, 1) := by decide +kernel
theorem dX2_readRepeated_105 : decode cX2_readRepeated 105 = .ok (.aload_n 0, 1) := by decide +kernel
theorem dX2_readRepeated_106 : decode cX2_readRepeated 106 = .ok (.iconst 3, 1) := by decide +kernel
theorem dX2_readRepeated_107 : decode cX2_readRepeated 107 = .ok (.iconst 0, 1) := by decide +kernel
theorem dX2_readRepeated_108 : decode cX2_readRepeated 108 = .ok (.iconst 0, 1) := by decide +kernel
theorem dX2_readRepeated_109 : decode cX2_readRepeated 109 = .ok (.invokevirtual 60, 3) := by decide +kernel
theorem dX2_readRepeated_112 : decode cX2_readRepeated 112 = .ok (.iload_n 3, 1) := by decide +kernel
theorem dX2_readRepeated_113 : decode cX2_readRepeated 113 = .ok (.iconst 1, 1) := by decide +kernel
theorem dX2_readRepeated_114 : decode cX2_readRepeated 114 = .ok (.iadd, 1) := by decide +kernel
theorem dX2_readRepeated_115 : decode cX2_readRepeated 115 = .ok (.ireturn, 1) := by decide +kernel
theorem dX2_readRepeated_116 : decode cX2_readRepeated 116 = .ok (.aload_n 0, 1) := by decide +kernel
theorem dX2_readRepeated_117 : decode cX2_readRepeated 117 = .ok (.iconst 2, 1) := by decide +kernel
theorem dX2_readRepeated_118 : decode cX2_readRepeated 118 = .ok (.iconst 1, 1) := by decide +kernel
theorem dX2_readRepeated_119 : decode cX2_readRepeated 119 = .ok (.iconst 1, 1) := by decide +kernel
theorem dX2_readRepeated_120 : decode cX2_readRepeated 120 = .ok (.invokevirtual 60, 3) := by decide +kernel
theorem dX2_readRepeated_123 : decode cX2_readRepeated 123 = .ok (.iload_n 3, 1) := by decide +kernel
theorem dX2_readRepeated_124 : decode cX2_readRepeated 124 = .ok (.ireturn, 1) := by decide +kernel
theorem dX2_readSpecial_0 : decode cX2_readSpecial 0 = .ok (.iload_n 1, 1) := by decide +kernel
theorem dX2_readSpecial_1 : decode cX2_readSpecial 1 = .ok (.tableswitch 102 4 9 #[39, 58, 48, 66, 84, 93], 39) := by decide +kernel
theorem dX2_readSpecial_40 : decode cX2_readSpecial 40 = .ok (.aload_n 0, 1) := by decide +kernel
theorem dX2_readSpecial_41 : decode cX2_readSpecial 41 = .ok (.iconst 4, 1) := by decide +kernel
theorem dX2_readSpecial_42 : decode cX2_readSpecial 42 = .ok (.iload_n 3, 1) := by decide +kernel
theorem dX2_readSpecial_43 : decode cX2_readSpecial 43 = .ok (.iconst 1, 1) := by decide +kernel
theorem dX2_readSpecial_44 : decode cX2_readSpecial 44 = .ok (.iadd, 1) := by decide +kernel
theorem dX2_readSpecial_45 : decode cX2_readSpecial 45 = .ok (.invokevirtual 71, 3) := by decide +kernel
theorem dX2_readSpecial_48 : decode cX2_readSpecial 48 = .ok (.ireturn, 1) := by decide +kernel
theorem dX2_readSpecial_49 : decode cX2_readSpecial 49 = .ok (.aload_n 0, 1) := by decide +kernel
theorem dX2_readSpecial_50 : decode cX2_readSpecial 50 = .ok (.bipush 6, 2) := by decide +kernel
theorem dX2_readSpecial_52 : decode cX2_readSpecial 52 = .ok (.iload_n 3, 1) := by decide +kernel
theorem dX2_readSpecial_53 : decode cX2_readSpecial 53 = .ok (.iconst 2, 1) := by decide +kernel
theorem dX2_readSpecial_54 : decode cX2_readSpecial 54 = .ok (.iadd, 1) := by decide +kernel
theorem dX2_readSpecial_55 : decode cX2_readSpecial 55 = .ok (.invokevirtual 71, 3) := by decide +kernel
theorem dX2_readSpecial_58 : decode cX2_readSpecial 58 = .ok (.ireturn, 1) := by decide +kernel
theorem dX2_readSpecial_59 : decode cX2_readSpecial 59 = .ok (.aload_n 0, 1) := by decide +kernel
theorem dX2_readSpecial_60 : decode cX2_readSpecial 60 = .ok (.iload_n 3, 1) := by decide +kernel
theorem dX2_readSpecial_61 : decode cX2_readSpecial 61 = .ok (.iconst 1, 1) := by decide +kernel
theorem dX2_readSpecial_62 : decode cX2_readSpecial 62 = .ok (.iadd, 1) := by decide +kernel
theorem dX2_readSpecial_63 : decode cX2_readSpecial 63 = .ok (.invokevirtual 75, 3) := by decide +kernel
theorem dX2_readSpecial_66 : decode cX2_readSpecial 66 = .ok (.ireturn, 1) := by decide +kernel
theorem dX2_readSpecial_67 : decode cX2_readSpecial 67 = .ok (.aload_n 0, 1) := by decide +kernel
theorem dX2_readSpecial_68 : decode cX2_readSpecial 68 = .ok (.aload_n 2, 1) := by decide +kernel
theorem dX2_readSpecial_69 : decode cX2_readSpecial 69 = .ok (.iload_n 3, 1) := by decide +kernel
theorem dX2_readSpecial_70 : decode cX2_readSpecial 70 = .ok (.iconst 1, 1) := by decide +kernel
theorem dX2_readSpecial_71 : decode cX2_readSpecial 71 = .ok (.iadd, 1) := by decide +kernel
theorem dX2_readSpecial_72 : decode cX2_readSpecial 72 = .ok (.invokevirtual 64, 3) := by decide +kernel
theorem dX2_readSpecial_75 : decode cX2_readSpecial 75 = .ok (.bipush 49, 2) := by decide +kernel
theorem dX2_readSpecial_77 : decode cX2_readSpecial 77 = .ok (.isub, 1) := by decide +kernel
theorem dX2_readSpecial_78 : decode cX2_readSpecial 78 = .ok (.iload_n 3, 1) := by decide +kernel
theorem dX2_readSpecial_79 : decode cX2_readSpecial 79 = .ok (.iconst 2, 1) := by decide +kernel
theorem dX2_readSpecial_80 : decode cX2_readSpecial 80 = .ok (.iadd, 1) := by decide +kernel
theorem dX2_readSpecial_81 : decode cX2_readSpecial 81 = .ok (.invokevirtual 78, 3) := by decide +kernel
theorem dX2_readSpecial_84 : decode cX2_readSpecial 84 = .ok (.ireturn, 1) := by decide +kernel
theorem dX2_readSpecial_85 : decode cX2_readSpecial 85 = .ok (.aload_n 0, 1) := by decide +kernel
theorem dX2_readSpecial_86 : decode cX2_readSpecial 86 = .ok (.aload_n 2, 1) := by decide +kernel
theorem dX2_readSpecial_87 : decode cX2_readSpecial 87 = .ok (.iload_n 3, 1) := by decide +kernel
theorem dX2_readSpecial_88 : decode cX2_readSpecial 88 = .ok (.iconst 2, 1) := by decide +kernel
theorem dX2_readSpecial_89 : decode cX2_readSpecial 89 = .ok (.iadd, 1) := by decide +kernel
theorem dX2_readSpecial_90 : decode cX2_readSpecial 90 = .ok (.invokevirtual 81, 3) := by decide +kernel
theorem dX2_readSpecial_93 : decode cX2_readSpecial 93 = .ok (.ireturn, 1) := by decide +kernel
theorem dX2_readSpecial_94 : decode cX2_readSpecial 94 = .ok (.aload_n 0, 1) := by decide +kernel
theorem dX2_readSpecial_95 : decode cX2_readSpecial 95 = .ok (.aload_n 2, 1) := by decide +kernel
theorem dX2_readSpecial_96 : decode cX2_readSpecial 96 = .ok (.iload_n 3, 1) := by decide +kernel
theorem dX2_readSpecial_97 : decode cX2_readSpecial 97 = .ok (.iconst 2, 1) := by decide +kernel
theorem dX2_readSpecial_98 : decode cX2_readSpecial 98 = .ok (.iadd, 1) := by decide +kernel
theorem dX2_readSpecial_99 : decode cX2_readSpecial 99 = .ok (.invokevirtual 84, 3) := by decide +kernel
theorem dX2_readSpecial_102 : decode cX2_readSpecial 102 = .ok (.ireturn, 1) := by decide +kernel
theorem dX2_readSpecial_103 : decode cX2_readSpecial 103 = .ok (.aload_n 0, 1) := by decide +kernel
theorem dX2_readSpecial_104 : decode cX2_readSpecial 104 = .ok (.bipush 10, 2) := by decide +kernel
theorem dX2_readSpecial_106 : decode cX2_readSpecial 106 = .ok (.iconst 0, 1) := by decide +kernel
theorem dX2_readSpecial_107 : decode cX2_readSpecial 107 = .ok (.iconst 0, 1) := by decide +kernel
theorem dX2_readSpecial_108 : decode cX2_readSpecial 108 = .ok (.invokevirtual 60, 3) := by decide +kernel
theorem dX2_readSpecial_111 : decode cX2_readSpecial 111 = .ok (.iload_n 3, 1) := by decide +kernel
theorem dX2_readSpecial_112 : decode cX2_readSpecial 112 = .ok (.iconst 1, 1) := by decide +kernel
theorem dX2_readSpecial_113 : decode cX2_readSpecial 113 = .ok (.iadd, 1) := by decide +kernel
theorem dX2_readSpecial_114 : decode cX2_readSpecial 114 = .ok (.ireturn, 1) := by decide +kernel
theorem dX2_read_0 : decode cX2_read 0 = .ok (.aload_n 0, 1) := by decide +kernel
theorem dX2_read_1 : decode cX2_read 1 = .ok (.iconst 0, 1) := by decide +kernel
theorem dX2_read_2 : decode cX2_read 2 = .ok (.putfield 37, 3) := by decide +kernel
theorem dX2_read_5 : decode cX2_read 5 = .ok (.aload_n 0, 1) := by decide +kernel
theorem dX2_read_6 : decode cX2_read 6 = .ok (.iconst 0, 1) := by decide +kernel
theorem dX2_read_7 : decode cX2_read 7 = .ok (.putfield 33, 3) := by decide +kernel
theorem dX2_read_10 : decode cX2_read 10 = .ok (.iload_n 2, 1) := by decide +kernel
theorem dX2_read_11 : decode cX2_read 11 = .ok (.istore_n 3, 1) := by decide +kernel
theorem dX2_read_12 : decode cX2_read 12 = .ok (.iconst 0, 1) := by decide +kernel
theorem dX2_read_13 : decode cX2_read 13 = .ok (.istore 4, 2) := by decide +kernel
theorem dX2_read_15 : decode cX2_read 15 = .ok (.iload 4, 2) := by decide +kernel
theorem dX2_read_17 : decode cX2_read 17 = .ok (.sipush 512, 3) := by decide +kernel
theorem dX2_read_20 : decode cX2_read 20 = .ok (.if_icmp .ge 53, 3) := by decide +kernel
theorem dX2_read_23 : decode cX2_read 23 = .ok (.iload_n 3, 1) := by decide +kernel
theorem dX2_read_24 : decode cX2_read 24 = .ok (.iconst (-1), 1) := by decide +kernel
theorem dX2_read_25 : decode cX2_read 25 = .ok (.if_icmp .eq 48, 3) := by decide +kernel
theorem dX2_read_28 : decode cX2_read 28 = .ok (.iload_n 3, 1) := by decide +kernel
theorem dX2_read_29 : decode cX2_read 29 = .ok (.aload_n 1, 1) := by decide +kernel
theorem dX2_read_30 : decode cX2_read 30 = .ok (.invokevirtual 40, 3) := by decide +kernel
theorem dX2_read_33 : decode cX2_read 33 = .ok (.if_icmp .ge 40, 3) := by decide +kernel
theorem dX2_read_36 : decode cX2_read 36 = .ok (.aload_n 1, 1) := by decide +kernel
theorem dX2_read_37 : decode cX2_read 37 = .ok (.iload_n 3, 1) := by decide +kernel
theorem dX2_read_38 : decode cX2_read 38 = .ok (.invokestatic 46, 3) := by decide +kernel
theorem dX2_read_41 : decode cX2_read 41 = .ok (.istore 5, 2) := by decide +kernel
theorem dX2_read_43 : decode cX2_read 43 = .ok (.iload 5, 2) := by decide +kernel
theorem dX2_read_45 : decode cX2_read 45 = .ok (.iconst 2, 1) := by decide +kernel
theorem dX2_read_46 : decode cX2_read 46 = .ok (.if_icmp .ne 12, 3) := by decide +kernel
theorem dX2_read_49 : decode cX2_read 49 = .ok (.aload_n 0, 1) := by decide +kernel
theorem dX2_read_50 : decode cX2_read 50 = .ok (.aload_n 1, 1) := by decide +kernel
theorem dX2_read_51 : decode cX2_read 51 = .ok (.iload_n 3, 1) := by decide +kernel
theorem dX2_read_52 : decode cX2_read 52 = .ok (.invokevirtual 50, 3) := by decide +kernel
theorem dX2_read_55 : decode cX2_read 55 = .ok (.goto 11, 3) := by decide +kernel
theorem dX2_read_58 : decode cX2_read 58 = .ok (.aload_n 0, 1) := by decide +kernel
theorem dX2_read_59 : decode cX2_read 59 = .ok (.iload 5, 2) := by decide +kernel
theorem dX2_read_61 : decode cX2_read 61 = .ok (.aload_n 1, 1) := by decide +kernel
theorem dX2_read_62 : decode cX2_read 62 = .ok (.iload_n 3, 1) := by decide +kernel
theorem dX2_read_63 : decode cX2_read 63 = .ok (.invokevirtual 53, 3) := by decide +kernel
theorem dX2_read_66 : decode cX2_read 66 = .ok (.istore_n 3, 1) := by decide +kernel
theorem dX2_read_67 : decode cX2_read 67 = .ok (.iinc 4 1, 3) := by decide +kernel
theorem dX2_read_70 : decode cX2_read 70 = .ok (.goto (-55), 3) := by decide +kernel
theorem dX2_read_73 : decode cX2_read 73 = .ok (.iload_n 3, 1) := by decide +kernel
theorem dX2_read_74 : decode cX2_read 74 = .ok (.iconst (-1), 1) := by decide +kernel
theorem dX2_read_75 : decode cX2_read 75 = .ok (.if_icmp .eq 15, 3) := by decide +kernel
theorem dX2_read_78 : decode cX2_read 78 = .ok (.aload_n 0, 1) := by decide +kernel
theorem dX2_read_79 : decode cX2_read 79 = .ok (.invokevirtual 57, 3) := by decide +kernel
theorem dX2_read_82 : decode cX2_read 82 = .ok (.iconst (-1), 1) := by decide +kernel
theorem dX2_read_83 : decode cX2_read 83 = .ok (.if_icmp .ne 7, 3) := by decide +kernel
theorem dX2_read_86 : decode cX2_read 86 = .ok (.iconst 1, 1) := by decide +kernel
theorem dX2_read_87 : decode cX2_read 87 = .ok (.goto 4, 3) := by decide +kernel
theorem dX2_read_90 : decode cX2_read 90 = .ok (.iconst 0, 1) := by decide +kernel
theorem dX2_read_91 : decode cX2_read 91 = .ok (.istore 4, 2) := by decide +kernel
theorem dX2_read_93 : decode cX2_read 93 = .ok (.aload_n 0, 1) := by decide +kernel
theorem dX2_read_94 : decode cX2_read 94 = .ok (.iload 4, 2) := by decide +kernel
theorem dX2_read_96 : decode cX2_read 96 = .ok (.ifCond .eq 7, 3) := by decide +kernel
theorem dX2_read_99 : decode cX2_read 99 = .ok (.iconst 1, 1) := by decide +kernel
theorem dX2_read_100 : decode cX2_read 100 = .ok (.goto 4, 3) := by decide +kernel
theorem dX2_read_103 : decode cX2_read 103 = .ok (.iconst 0, 1) := by decide +kernel
theorem dX2_read_104 : decode cX2_read 104 = .ok (.iconst 0, 1) := by decide +kernel
theorem dX2_read_105 : decode cX2_read 105 = .ok (.iconst 0, 1) := by decide +kernel
theorem dX2_read_106 : decode cX2_read 106 = .ok (.invokevirtual 60, 3) := by decide +kernel
theorem dX2_read_109 : decode cX2_read 109 = .ok (.return_, 1) := by decide +kernel
theorem dX2_init_0 : decode cX2_init 0 = .ok (.aload_n 0, 1) := by decide +kernel
theorem dX2_init_1 : decode cX2_init 1 = .ok (.invokespecial 3, 3) := by decide +kernel
theorem dX2_init_4 : decode cX2_init 4 = .ok (.aload_n 0, 1) := by decide +kernel
theorem dX2_init_5 : decode cX2_init 5 = .ok (.sipush 513, 3) := by decide +kernel
theorem dX2_init_8 : decode cX2_init 8 = .ok (.newarray .int, 2) := by decide +kernel
theorem dX2_init_10 : decode cX2_init 10 = .ok (.putfield 9, 3) := by decide +kernel
theorem dX2_init_13 : decode cX2_init 13 = .ok (.aload_n 0, 1) := by decide +kernel
theorem dX2_init_14 : decode cX2_init 14 = .ok (.sipush 513, 3) := by decide +kernel
theorem dX2_init_17 : decode cX2_init 17 = .ok (.newarray .int, 2) := by decide +kernel
theorem dX2_init_19 : decode cX2_init 19 = .ok (.putfield 15, 3) := by decide +kernel
theorem dX2_init_22 : decode cX2_init 22 = .ok (.aload_n 0, 1) := by decide +kernel
theorem dX2_init_23 : decode cX2_init 23 = .ok (.sipush 513, 3) := by decide +kernel
theorem dX2_init_26 : decode cX2_init 26 = .ok (.newarray .int, 2) := by decide +kernel
theorem dX2_init_28 : decode cX2_init 28 = .ok (.putfield 18, 3) := by decide +kernel
theorem dX2_init_31 : decode cX2_init 31 = .ok (.aload_n 0, 1) := by decide +kernel
theorem dX2_init_32 : decode cX2_init 32 = .ok (.new 21, 3) := by decide +kernel
theorem dX2_init_35 : decode cX2_init 35 = .ok (.dup, 1) := by decide +kernel
theorem dX2_init_36 : decode cX2_init 36 = .ok (.sipush 513, 3) := by decide +kernel
theorem dX2_init_39 : decode cX2_init 39 = .ok (.invokespecial 23, 3) := by decide +kernel
theorem dX2_init_42 : decode cX2_init 42 = .ok (.putfield 26, 3) := by decide +kernel
theorem dX2_init_45 : decode cX2_init 45 = .ok (.aload_n 0, 1) := by decide +kernel
theorem dX2_init_46 : decode cX2_init 46 = .ok (.bipush 32, 2) := by decide +kernel
theorem dX2_init_48 : decode cX2_init 48 = .ok (.newarray .int, 2) := by decide +kernel
theorem dX2_init_50 : decode cX2_init 50 = .ok (.putfield 30, 3) := by decide +kernel
theorem dX2_init_53 : decode cX2_init 53 = .ok (.return_, 1) := by decide +kernel
