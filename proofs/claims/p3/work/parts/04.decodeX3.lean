theorem dX3_forgetLooks_0 : decode cX3_forgetLooks 0 = .ok (.aload_n 0, 1) := by decide +kernel
theorem dX3_forgetLooks_1 : decode cX3_forgetLooks 1 = .ok (.iconst 0, 1) := by decide +kernel
theorem dX3_forgetLooks_2 : decode cX3_forgetLooks 2 = .ok (.putfield 27, 3) := by decide +kernel
theorem dX3_forgetLooks_5 : decode cX3_forgetLooks 5 = .ok (.return_, 1) := by decide +kernel
theorem dX3_looksMade_0 : decode cX3_looksMade 0 = .ok (.aload_n 0, 1) := by decide +kernel
theorem dX3_looksMade_1 : decode cX3_looksMade 1 = .ok (.getfield 27, 3) := by decide +kernel
theorem dX3_looksMade_4 : decode cX3_looksMade 4 = .ok (.ireturn, 1) := by decide +kernel
theorem dX3_end_0 : decode cX3_end 0 = .ok (.aload_n 0, 1) := by decide +kernel
theorem dX3_end_1 : decode cX3_end 1 = .ok (.getfield 31, 3) := by decide +kernel
theorem dX3_end_4 : decode cX3_end 4 = .ok (.ireturn, 1) := by decide +kernel
theorem dX3_startOf_0 : decode cX3_startOf 0 = .ok (.iload_n 1, 1) := by decide +kernel
theorem dX3_startOf_1 : decode cX3_startOf 1 = .ok (.ifCond .lt 21, 3) := by decide +kernel
theorem dX3_startOf_4 : decode cX3_startOf 4 = .ok (.iload_n 1, 1) := by decide +kernel
theorem dX3_startOf_5 : decode cX3_startOf 5 = .ok (.aload_n 0, 1) := by decide +kernel
theorem dX3_startOf_6 : decode cX3_startOf 6 = .ok (.getfield 21, 3) := by decide +kernel
theorem dX3_startOf_9 : decode cX3_startOf 9 = .ok (.arraylength, 1) := by decide +kernel
theorem dX3_startOf_10 : decode cX3_startOf 10 = .ok (.if_icmp .ge 12, 3) := by decide +kernel
theorem dX3_startOf_13 : decode cX3_startOf 13 = .ok (.aload_n 0, 1) := by decide +kernel
theorem dX3_startOf_14 : decode cX3_startOf 14 = .ok (.getfield 21, 3) := by decide +kernel
theorem dX3_startOf_17 : decode cX3_startOf 17 = .ok (.iload_n 1, 1) := by decide +kernel
theorem dX3_startOf_18 : decode cX3_startOf 18 = .ok (.iaload, 1) := by decide +kernel
theorem dX3_startOf_19 : decode cX3_startOf 19 = .ok (.goto 4, 3) := by decide +kernel
theorem dX3_startOf_22 : decode cX3_startOf 22 = .ok (.iconst (-1), 1) := by decide +kernel
theorem dX3_startOf_23 : decode cX3_startOf 23 = .ok (.ireturn, 1) := by decide +kernel
theorem dX3_lengthOf_0 : decode cX3_lengthOf 0 = .ok (.iload_n 1, 1) := by decide +kernel
theorem dX3_lengthOf_1 : decode cX3_lengthOf 1 = .ok (.ifCond .lt 21, 3) := by decide +kernel
theorem dX3_lengthOf_4 : decode cX3_lengthOf 4 = .ok (.iload_n 1, 1) := by decide +kernel
theorem dX3_lengthOf_5 : decode cX3_lengthOf 5 = .ok (.aload_n 0, 1) := by decide +kernel
theorem dX3_lengthOf_6 : decode cX3_lengthOf 6 = .ok (.getfield 24, 3) := by decide +kernel
theorem dX3_lengthOf_9 : decode cX3_lengthOf 9 = .ok (.arraylength, 1) := by decide +kernel
theorem dX3_lengthOf_10 : decode cX3_lengthOf 10 = .ok (.if_icmp .ge 12, 3) := by decide +kernel
theorem dX3_lengthOf_13 : decode cX3_lengthOf 13 = .ok (.aload_n 0, 1) := by decide +kernel
theorem dX3_lengthOf_14 : decode cX3_lengthOf 14 = .ok (.getfield 24, 3) := by decide +kernel
theorem dX3_lengthOf_17 : decode cX3_lengthOf 17 = .ok (.iload_n 1, 1) := by decide +kernel
theorem dX3_lengthOf_18 : decode cX3_lengthOf 18 = .ok (.iaload, 1) := by decide +kernel
theorem dX3_lengthOf_19 : decode cX3_lengthOf 19 = .ok (.goto 4, 3) := by decide +kernel
theorem dX3_lengthOf_22 : decode cX3_lengthOf 22 = .ok (.iconst (-1), 1) := by decide +kernel
theorem dX3_lengthOf_23 : decode cX3_lengthOf 23 = .ok (.ireturn, 1) := by decide +kernel
theorem dX3_mayLook_0 : decode cX3_mayLook 0 = .ok (.aload_n 0, 1) := by decide +kernel
theorem dX3_mayLook_1 : decode cX3_mayLook 1 = .ok (.getfield 27, 3) := by decide +kernel
theorem dX3_mayLook_4 : decode cX3_mayLook 4 = .ok (.ldc 40, 2) := by decide +kernel
theorem dX3_mayLook_6 : decode cX3_mayLook 6 = .ok (.if_icmp .lt 5, 3) := by decide +kernel
theorem dX3_mayLook_9 : decode cX3_mayLook 9 = .ok (.iconst 0, 1) := by decide +kernel
theorem dX3_mayLook_10 : decode cX3_mayLook 10 = .ok (.ireturn, 1) := by decide +kernel
theorem dX3_mayLook_11 : decode cX3_mayLook 11 = .ok (.aload_n 0, 1) := by decide +kernel
theorem dX3_mayLook_12 : decode cX3_mayLook 12 = .ok (.dup, 1) := by decide +kernel
theorem dX3_mayLook_13 : decode cX3_mayLook 13 = .ok (.getfield 27, 3) := by decide +kernel
theorem dX3_mayLook_16 : decode cX3_mayLook 16 = .ok (.iconst 1, 1) := by decide +kernel
theorem dX3_mayLook_17 : decode cX3_mayLook 17 = .ok (.iadd, 1) := by decide +kernel
theorem dX3_mayLook_18 : decode cX3_mayLook 18 = .ok (.putfield 27, 3) := by decide +kernel
theorem dX3_mayLook_21 : decode cX3_mayLook 21 = .ok (.iconst 1, 1) := by decide +kernel
theorem dX3_mayLook_22 : decode cX3_mayLook 22 = .ok (.ireturn, 1) := by decide +kernel
theorem dX3_addChoice_0 : decode cX3_addChoice 0 = .ok (.aload_n 0, 1) := by decide +kernel
theorem dX3_addChoice_1 : decode cX3_addChoice 1 = .ok (.getfield 34, 3) := by decide +kernel
theorem dX3_addChoice_4 : decode cX3_addChoice 4 = .ok (.aload_n 0, 1) := by decide +kernel
theorem dX3_addChoice_5 : decode cX3_addChoice 5 = .ok (.getfield 9, 3) := by decide +kernel
theorem dX3_addChoice_8 : decode cX3_addChoice 8 = .ok (.arraylength, 1) := by decide +kernel
theorem dX3_addChoice_9 : decode cX3_addChoice 9 = .ok (.if_icmp .ge 70, 3) := by decide +kernel
theorem dX3_addChoice_12 : decode cX3_addChoice 12 = .ok (.aload_n 0, 1) := by decide +kernel
theorem dX3_addChoice_13 : decode cX3_addChoice 13 = .ok (.getfield 34, 3) := by decide +kernel
theorem dX3_addChoice_16 : decode cX3_addChoice 16 = .ok (.aload_n 0, 1) := by decide +kernel
theorem dX3_addChoice_17 : decode cX3_addChoice 17 = .ok (.getfield 15, 3) := by decide +kernel
theorem dX3_addChoice_20 : decode cX3_addChoice 20 = .ok (.arraylength, 1) := by decide +kernel
theorem dX3_addChoice_21 : decode cX3_addChoice 21 = .ok (.if_icmp .ge 58, 3) := by decide +kernel
theorem dX3_addChoice_24 : decode cX3_addChoice 24 = .ok (.aload_n 0, 1) := by decide +kernel
theorem dX3_addChoice_25 : decode cX3_addChoice 25 = .ok (.getfield 34, 3) := by decide +kernel
theorem dX3_addChoice_28 : decode cX3_addChoice 28 = .ok (.aload_n 0, 1) := by decide +kernel
theorem dX3_addChoice_29 : decode cX3_addChoice 29 = .ok (.getfield 18, 3) := by decide +kernel
theorem dX3_addChoice_32 : decode cX3_addChoice 32 = .ok (.arraylength, 1) := by decide +kernel
theorem dX3_addChoice_33 : decode cX3_addChoice 33 = .ok (.if_icmp .ge 46, 3) := by decide +kernel
theorem dX3_addChoice_36 : decode cX3_addChoice 36 = .ok (.aload_n 0, 1) := by decide +kernel
theorem dX3_addChoice_37 : decode cX3_addChoice 37 = .ok (.getfield 9, 3) := by decide +kernel
theorem dX3_addChoice_40 : decode cX3_addChoice 40 = .ok (.aload_n 0, 1) := by decide +kernel
theorem dX3_addChoice_41 : decode cX3_addChoice 41 = .ok (.getfield 34, 3) := by decide +kernel
theorem dX3_addChoice_44 : decode cX3_addChoice 44 = .ok (.aload_n 0, 1) := by decide +kernel
theorem dX3_addChoice_45 : decode cX3_addChoice 45 = .ok (.getfield 37, 3) := by decide +kernel
theorem dX3_addChoice_48 : decode cX3_addChoice 48 = .ok (.iastore, 1) := by decide +kernel
theorem dX3_addChoice_49 : decode cX3_addChoice 49 = .ok (.aload_n 0, 1) := by decide +kernel
theorem dX3_addChoice_50 : decode cX3_addChoice 50 = .ok (.getfield 15, 3) := by decide +kernel
theorem dX3_addChoice_53 : decode cX3_addChoice 53 = .ok (.aload_n 0, 1) := by decide +kernel
theorem dX3_addChoice_54 : decode cX3_addChoice 54 = .ok (.getfield 34, 3) := by decide +kernel
theorem dX3_addChoice_57 : decode cX3_addChoice 57 = .ok (.iload_n 1, 1) := by decide +kernel
theorem dX3_addChoice_58 : decode cX3_addChoice 58 = .ok (.iastore, 1) := by decide +kernel
theorem dX3_addChoice_59 : decode cX3_addChoice 59 = .ok (.aload_n 0, 1) := by decide +kernel
theorem dX3_addChoice_60 : decode cX3_addChoice 60 = .ok (.getfield 18, 3) := by decide +kernel
theorem dX3_addChoice_63 : decode cX3_addChoice 63 = .ok (.aload_n 0, 1) := by decide +kernel
theorem dX3_addChoice_64 : decode cX3_addChoice 64 = .ok (.getfield 34, 3) := by decide +kernel
theorem dX3_addChoice_67 : decode cX3_addChoice 67 = .ok (.iload_n 2, 1) := by decide +kernel
theorem dX3_addChoice_68 : decode cX3_addChoice 68 = .ok (.iastore, 1) := by decide +kernel
theorem dX3_addChoice_69 : decode cX3_addChoice 69 = .ok (.aload_n 0, 1) := by decide +kernel
theorem dX3_addChoice_70 : decode cX3_addChoice 70 = .ok (.dup, 1) := by decide +kernel
theorem dX3_addChoice_71 : decode cX3_addChoice 71 = .ok (.getfield 34, 3) := by decide +kernel
theorem dX3_addChoice_74 : decode cX3_addChoice 74 = .ok (.iconst 1, 1) := by decide +kernel
theorem dX3_addChoice_75 : decode cX3_addChoice 75 = .ok (.iadd, 1) := by decide +kernel
theorem dX3_addChoice_76 : decode cX3_addChoice 76 = .ok (.putfield 34, 3) := by decide +kernel
theorem dX3_addChoice_79 : decode cX3_addChoice 79 = .ok (.return_, 1) := by decide +kernel
theorem dX3_setStart_0 : decode cX3_setStart 0 = .ok (.iload_n 1, 1) := by decide +kernel
theorem dX3_setStart_1 : decode cX3_setStart 1 = .ok (.ifCond .lt 38, 3) := by decide +kernel
theorem dX3_setStart_4 : decode cX3_setStart 4 = .ok (.iload_n 1, 1) := by decide +kernel
theorem dX3_setStart_5 : decode cX3_setStart 5 = .ok (.aload_n 0, 1) := by decide +kernel
theorem dX3_setStart_6 : decode cX3_setStart 6 = .ok (.getfield 21, 3) := by decide +kernel
theorem dX3_setStart_9 : decode cX3_setStart 9 = .ok (.arraylength, 1) := by decide +kernel
theorem dX3_setStart_10 : decode cX3_setStart 10 = .ok (.if_icmp .ge 29, 3) := by decide +kernel
theorem dX3_setStart_13 : decode cX3_setStart 13 = .ok (.iload_n 1, 1) := by decide +kernel
theorem dX3_setStart_14 : decode cX3_setStart 14 = .ok (.aload_n 0, 1) := by decide +kernel
theorem dX3_setStart_15 : decode cX3_setStart 15 = .ok (.getfield 24, 3) := by decide +kernel
theorem dX3_setStart_18 : decode cX3_setStart 18 = .ok (.arraylength, 1) := by decide +kernel
theorem dX3_setStart_19 : decode cX3_setStart 19 = .ok (.if_icmp .ge 20, 3) := by decide +kernel
theorem dX3_setStart_22 : decode cX3_setStart 22 = .ok (.aload_n 0, 1) := by decide +kernel
theorem dX3_setStart_23 : decode cX3_setStart 23 = .ok (.getfield 21, 3) := by decide +kernel
theorem dX3_setStart_26 : decode cX3_setStart 26 = .ok (.iload_n 1, 1) := by decide +kernel
theorem dX3_setStart_27 : decode cX3_setStart 27 = .ok (.aload_n 0, 1) := by decide +kernel
theorem dX3_setStart_28 : decode cX3_setStart 28 = .ok (.getfield 31, 3) := by decide +kernel
theorem dX3_setStart_31 : decode cX3_setStart 31 = .ok (.iastore, 1) := by decide +kernel
theorem dX3_setStart_32 : decode cX3_setStart 32 = .ok (.aload_n 0, 1) := by decide +kernel
theorem dX3_setStart_33 : decode cX3_setStart 33 = .ok (.getfield 24, 3) := by decide +kernel
theorem dX3_setStart_36 : decode cX3_setStart 36 = .ok (.iload_n 1, 1) := by decide +kernel
theorem dX3_setStart_37 : decode cX3_setStart 37 = .ok (.iconst (-1), 1) := by decide +kernel
theorem dX3_setStart_38 : decode cX3_setStart 38 = .ok (.iastore, 1) := by decide +kernel
theorem dX3_setStart_39 : decode cX3_setStart 39 = .ok (.return_, 1) := by decide +kernel
theorem dX3_setLength_0 : decode cX3_setLength 0 = .ok (.iload_n 1, 1) := by decide +kernel
theorem dX3_setLength_1 : decode cX3_setLength 1 = .ok (.ifCond .lt 38, 3) := by decide +kernel
theorem dX3_setLength_4 : decode cX3_setLength 4 = .ok (.iload_n 1, 1) := by decide +kernel
theorem dX3_setLength_5 : decode cX3_setLength 5 = .ok (.aload_n 0, 1) := by decide +kernel
theorem dX3_setLength_6 : decode cX3_setLength 6 = .ok (.getfield 21, 3) := by decide +kernel
theorem dX3_setLength_9 : decode cX3_setLength 9 = .ok (.arraylength, 1) := by decide +kernel
theorem dX3_setLength_10 : decode cX3_setLength 10 = .ok (.if_icmp .ge 29, 3) := by decide +kernel
theorem dX3_setLength_13 : decode cX3_setLength 13 = .ok (.iload_n 1, 1) := by decide +kernel
theorem dX3_setLength_14 : decode cX3_setLength 14 = .ok (.aload_n 0, 1) := by decide +kernel
theorem dX3_setLength_15 : decode cX3_setLength 15 = .ok (.getfield 24, 3) := by decide +kernel
theorem dX3_setLength_18 : decode cX3_setLength 18 = .ok (.arraylength, 1) := by decide +kernel
theorem dX3_setLength_19 : decode cX3_setLength 19 = .ok (.if_icmp .ge 20, 3) := by decide +kernel
theorem dX3_setLength_22 : decode cX3_setLength 22 = .ok (.aload_n 0, 1) := by decide +kernel
theorem dX3_setLength_23 : decode cX3_setLength 23 = .ok (.getfield 24, 3) := by decide +kernel
theorem dX3_setLength_26 : decode cX3_setLength 26 = .ok (.iload_n 1, 1) := by decide +kernel
theorem dX3_setLength_27 : decode cX3_setLength 27 = .ok (.aload_n 0, 1) := by decide +kernel
theorem dX3_setLength_28 : decode cX3_setLength 28 = .ok (.getfield 31, 3) := by decide +kernel
theorem dX3_setLength_31 : decode cX3_setLength 31 = .ok (.aload_n 0, 1) := by decide +kernel
theorem dX3_setLength_32 : decode cX3_setLength 32 = .ok (.getfield 21, 3) := by decide +kernel
theorem dX3_setLength_35 : decode cX3_setLength 35 = .ok (.iload_n 1, 1) := by decide +kernel
theorem dX3_setLength_36 : decode cX3_setLength 36 = .ok (.iaload, 1) := by decide +kernel
theorem dX3_setLength_37 : decode cX3_setLength 37 = .ok (.isub, 1) := by decide +kernel
theorem dX3_setLength_38 : decode cX3_setLength 38 = .ok (.iastore, 1) := by decide +kernel
theorem dX3_setLength_39 : decode cX3_setLength 39 = .ok (.return_, 1) := by decide +kernel
theorem dX3_look_0 : decode cX3_look 0 = .ok (.aload_n 2, 1) := by decide +kernel
theorem dX3_look_1 : decode cX3_look 1 = .ok (.iload 4, 2) := by decide +kernel
theorem dX3_look_3 : decode cX3_look 3 = .ok (.invokevirtual 108, 3) := by decide +kernel
theorem dX3_look_6 : decode cX3_look 6 = .ok (.istore 5, 2) := by decide +kernel
theorem dX3_look_8 : decode cX3_look 8 = .ok (.iload 5, 2) := by decide +kernel
theorem dX3_look_10 : decode cX3_look 10 = .ok (.iconst (-1), 1) := by decide +kernel
theorem dX3_look_11 : decode cX3_look 11 = .ok (.if_icmp .ne 5, 3) := by decide +kernel
theorem dX3_look_14 : decode cX3_look 14 = .ok (.iconst 0, 1) := by decide +kernel
theorem dX3_look_15 : decode cX3_look 15 = .ok (.ireturn, 1) := by decide +kernel
theorem dX3_look_16 : decode cX3_look 16 = .ok (.aload_n 0, 1) := by decide +kernel
theorem dX3_look_17 : decode cX3_look 17 = .ok (.invokevirtual 104, 3) := by decide +kernel
theorem dX3_look_20 : decode cX3_look 20 = .ok (.ifCond .ne 6, 3) := by decide +kernel
theorem dX3_look_23 : decode cX3_look 23 = .ok (.bipush (-4), 2) := by decide +kernel
theorem dX3_look_25 : decode cX3_look 25 = .ok (.ireturn, 1) := by decide +kernel
theorem dX3_look_26 : decode cX3_look 26 = .ok (.aload_n 1, 1) := by decide +kernel
theorem dX3_look_27 : decode cX3_look 27 = .ok (.getfield 117, 3) := by decide +kernel
theorem dX3_look_30 : decode cX3_look 30 = .ok (.iload_n 3, 1) := by decide +kernel
theorem dX3_look_31 : decode cX3_look 31 = .ok (.iload 5, 2) := by decide +kernel
theorem dX3_look_33 : decode cX3_look 33 = .ok (.invokevirtual 121, 3) := by decide +kernel
theorem dX3_look_36 : decode cX3_look 36 = .ok (.ifCond .eq 7, 3) := by decide +kernel
theorem dX3_look_39 : decode cX3_look 39 = .ok (.iconst 1, 1) := by decide +kernel
theorem dX3_look_40 : decode cX3_look 40 = .ok (.goto 4, 3) := by decide +kernel
theorem dX3_look_43 : decode cX3_look 43 = .ok (.iconst 0, 1) := by decide +kernel
theorem dX3_look_44 : decode cX3_look 44 = .ok (.ireturn, 1) := by decide +kernel
theorem dX3_lookAtBorder_0 : decode cX3_lookAtBorder 0 = .ok (.aload_n 0, 1) := by decide +kernel
theorem dX3_lookAtBorder_1 : decode cX3_lookAtBorder 1 = .ok (.invokevirtual 104, 3) := by decide +kernel
theorem dX3_lookAtBorder_4 : decode cX3_lookAtBorder 4 = .ok (.ifCond .ne 6, 3) := by decide +kernel
theorem dX3_lookAtBorder_7 : decode cX3_lookAtBorder 7 = .ok (.bipush (-4), 2) := by decide +kernel
theorem dX3_lookAtBorder_9 : decode cX3_lookAtBorder 9 = .ok (.ireturn, 1) := by decide +kernel
theorem dX3_lookAtBorder_10 : decode cX3_lookAtBorder 10 = .ok (.aload_n 2, 1) := by decide +kernel
theorem dX3_lookAtBorder_11 : decode cX3_lookAtBorder 11 = .ok (.aload_n 0, 1) := by decide +kernel
theorem dX3_lookAtBorder_12 : decode cX3_lookAtBorder 12 = .ok (.getfield 31, 3) := by decide +kernel
theorem dX3_lookAtBorder_15 : decode cX3_lookAtBorder 15 = .ok (.iconst 1, 1) := by decide +kernel
theorem dX3_lookAtBorder_16 : decode cX3_lookAtBorder 16 = .ok (.isub, 1) := by decide +kernel
theorem dX3_lookAtBorder_17 : decode cX3_lookAtBorder 17 = .ok (.invokevirtual 108, 3) := by decide +kernel
theorem dX3_lookAtBorder_20 : decode cX3_lookAtBorder 20 = .ok (.iconst 0, 1) := by decide +kernel
theorem dX3_lookAtBorder_21 : decode cX3_lookAtBorder 21 = .ok (.invokestatic 111, 3) := by decide +kernel
theorem dX3_lookAtBorder_24 : decode cX3_lookAtBorder 24 = .ok (.istore_n 3, 1) := by decide +kernel
theorem dX3_lookAtBorder_25 : decode cX3_lookAtBorder 25 = .ok (.aload_n 2, 1) := by decide +kernel
theorem dX3_lookAtBorder_26 : decode cX3_lookAtBorder 26 = .ok (.aload_n 0, 1) := by decide +kernel
theorem dX3_lookAtBorder_27 : decode cX3_lookAtBorder 27 = .ok (.getfield 31, 3) := by decide +kernel
theorem dX3_lookAtBorder_30 : decode cX3_lookAtBorder 30 = .ok (.invokevirtual 108, 3) := by decide +kernel
theorem dX3_lookAtBorder_33 : decode cX3_lookAtBorder 33 = .ok (.iconst 0, 1) := by decide +kernel
theorem dX3_lookAtBorder_34 : decode cX3_lookAtBorder 34 = .ok (.invokestatic 111, 3) := by decide +kernel
theorem dX3_lookAtBorder_37 : decode cX3_lookAtBorder 37 = .ok (.istore 4, 2) := by decide +kernel
theorem dX3_lookAtBorder_39 : decode cX3_lookAtBorder 39 = .ok (.aload_n 1, 1) := by decide +kernel
theorem dX3_lookAtBorder_40 : decode cX3_lookAtBorder 40 = .ok (.getfield 117, 3) := by decide +kernel
theorem dX3_lookAtBorder_43 : decode cX3_lookAtBorder 43 = .ok (.aload_n 0, 1) := by decide +kernel
theorem dX3_lookAtBorder_44 : decode cX3_lookAtBorder 44 = .ok (.getfield 37, 3) := by decide +kernel
theorem dX3_lookAtBorder_47 : decode cX3_lookAtBorder 47 = .ok (.iload_n 3, 1) := by decide +kernel
theorem dX3_lookAtBorder_48 : decode cX3_lookAtBorder 48 = .ok (.invokevirtual 121, 3) := by decide +kernel
theorem dX3_lookAtBorder_51 : decode cX3_lookAtBorder 51 = .ok (.ifCond .ne 23, 3) := by decide +kernel
theorem dX3_lookAtBorder_54 : decode cX3_lookAtBorder 54 = .ok (.aload_n 1, 1) := by decide +kernel
theorem dX3_lookAtBorder_55 : decode cX3_lookAtBorder 55 = .ok (.getfield 117, 3) := by decide +kernel
theorem dX3_lookAtBorder_58 : decode cX3_lookAtBorder 58 = .ok (.aload_n 0, 1) := by decide +kernel
theorem dX3_lookAtBorder_59 : decode cX3_lookAtBorder 59 = .ok (.getfield 37, 3) := by decide +kernel
theorem dX3_lookAtBorder_62 : decode cX3_lookAtBorder 62 = .ok (.iload 4, 2) := by decide +kernel
theorem dX3_lookAtBorder_64 : decode cX3_lookAtBorder 64 = .ok (.invokevirtual 121, 3) := by decide +kernel
theorem dX3_lookAtBorder_67 : decode cX3_lookAtBorder 67 = .ok (.ifCond .eq 7, 3) := by decide +kernel
theorem dX3_lookAtBorder_70 : decode cX3_lookAtBorder 70 = .ok (.iconst 1, 1) := by decide +kernel
theorem dX3_lookAtBorder_71 : decode cX3_lookAtBorder 71 = .ok (.goto 4, 3) := by decide +kernel
theorem dX3_lookAtBorder_74 : decode cX3_lookAtBorder 74 = .ok (.iconst 0, 1) := by decide +kernel
theorem dX3_lookAtBorder_75 : decode cX3_lookAtBorder 75 = .ok (.istore 5, 2) := by decide +kernel
theorem dX3_lookAtBorder_77 : decode cX3_lookAtBorder 77 = .ok (.iload 5, 2) := by decide +kernel
theorem dX3_lookAtBorder_79 : decode cX3_lookAtBorder 79 = .ok (.ifCond .eq 7, 3) := by decide +kernel
theorem dX3_lookAtBorder_82 : decode cX3_lookAtBorder 82 = .ok (.iconst 1, 1) := by decide +kernel
theorem dX3_lookAtBorder_83 : decode cX3_lookAtBorder 83 = .ok (.goto 4, 3) := by decide +kernel
theorem dX3_lookAtBorder_86 : decode cX3_lookAtBorder 86 = .ok (.iconst 0, 1) := by decide +kernel
theorem dX3_lookAtBorder_87 : decode cX3_lookAtBorder 87 = .ok (.ireturn, 1) := by decide +kernel
theorem dX3_takeSame_0 : decode cX3_takeSame 0 = .ok (.aload_n 1, 1) := by decide +kernel
theorem dX3_takeSame_1 : decode cX3_takeSame 1 = .ok (.invokevirtual 98, 3) := by decide +kernel
theorem dX3_takeSame_4 : decode cX3_takeSame 4 = .ok (.aload_n 0, 1) := by decide +kernel
theorem dX3_takeSame_5 : decode cX3_takeSame 5 = .ok (.getfield 31, 3) := by decide +kernel
theorem dX3_takeSame_8 : decode cX3_takeSame 8 = .ok (.isub, 1) := by decide +kernel
theorem dX3_takeSame_9 : decode cX3_takeSame 9 = .ok (.iload_n 3, 1) := by decide +kernel
theorem dX3_takeSame_10 : decode cX3_takeSame 10 = .ok (.if_icmp .ge 5, 3) := by decide +kernel
theorem dX3_takeSame_13 : decode cX3_takeSame 13 = .ok (.iconst 0, 1) := by decide +kernel
theorem dX3_takeSame_14 : decode cX3_takeSame 14 = .ok (.ireturn, 1) := by decide +kernel
theorem dX3_takeSame_15 : decode cX3_takeSame 15 = .ok (.iconst 0, 1) := by decide +kernel
theorem dX3_takeSame_16 : decode cX3_takeSame 16 = .ok (.istore 4, 2) := by decide +kernel
theorem dX3_takeSame_18 : decode cX3_takeSame 18 = .ok (.iload 4, 2) := by decide +kernel
theorem dX3_takeSame_20 : decode cX3_takeSame 20 = .ok (.iload_n 3, 1) := by decide +kernel
theorem dX3_takeSame_21 : decode cX3_takeSame 21 = .ok (.if_icmp .ge 43, 3) := by decide +kernel
theorem dX3_takeSame_24 : decode cX3_takeSame 24 = .ok (.aload_n 0, 1) := by decide +kernel
theorem dX3_takeSame_25 : decode cX3_takeSame 25 = .ok (.invokevirtual 104, 3) := by decide +kernel
theorem dX3_takeSame_28 : decode cX3_takeSame 28 = .ok (.ifCond .ne 6, 3) := by decide +kernel
theorem dX3_takeSame_31 : decode cX3_takeSame 31 = .ok (.bipush (-4), 2) := by decide +kernel
theorem dX3_takeSame_33 : decode cX3_takeSame 33 = .ok (.ireturn, 1) := by decide +kernel
theorem dX3_takeSame_34 : decode cX3_takeSame 34 = .ok (.aload_n 1, 1) := by decide +kernel
theorem dX3_takeSame_35 : decode cX3_takeSame 35 = .ok (.aload_n 0, 1) := by decide +kernel
theorem dX3_takeSame_36 : decode cX3_takeSame 36 = .ok (.getfield 31, 3) := by decide +kernel
theorem dX3_takeSame_39 : decode cX3_takeSame 39 = .ok (.iload 4, 2) := by decide +kernel
theorem dX3_takeSame_41 : decode cX3_takeSame 41 = .ok (.iadd, 1) := by decide +kernel
theorem dX3_takeSame_42 : decode cX3_takeSame 42 = .ok (.invokevirtual 108, 3) := by decide +kernel
theorem dX3_takeSame_45 : decode cX3_takeSame 45 = .ok (.aload_n 1, 1) := by decide +kernel
theorem dX3_takeSame_46 : decode cX3_takeSame 46 = .ok (.iload_n 2, 1) := by decide +kernel
theorem dX3_takeSame_47 : decode cX3_takeSame 47 = .ok (.iload 4, 2) := by decide +kernel
theorem dX3_takeSame_49 : decode cX3_takeSame 49 = .ok (.iadd, 1) := by decide +kernel
theorem dX3_takeSame_50 : decode cX3_takeSame 50 = .ok (.invokevirtual 108, 3) := by decide +kernel
theorem dX3_takeSame_53 : decode cX3_takeSame 53 = .ok (.if_icmp .eq 5, 3) := by decide +kernel
theorem dX3_takeSame_56 : decode cX3_takeSame 56 = .ok (.iconst 0, 1) := by decide +kernel
theorem dX3_takeSame_57 : decode cX3_takeSame 57 = .ok (.ireturn, 1) := by decide +kernel
theorem dX3_takeSame_58 : decode cX3_takeSame 58 = .ok (.iinc 4 1, 3) := by decide +kernel
theorem dX3_takeSame_61 : decode cX3_takeSame 61 = .ok (.goto (-43), 3) := by decide +kernel
theorem dX3_takeSame_64 : decode cX3_takeSame 64 = .ok (.aload_n 0, 1) := by decide +kernel
theorem dX3_takeSame_65 : decode cX3_takeSame 65 = .ok (.dup, 1) := by decide +kernel
theorem dX3_takeSame_66 : decode cX3_takeSame 66 = .ok (.getfield 31, 3) := by decide +kernel
theorem dX3_takeSame_69 : decode cX3_takeSame 69 = .ok (.iload_n 3, 1) := by decide +kernel
theorem dX3_takeSame_70 : decode cX3_takeSame 70 = .ok (.iadd, 1) := by decide +kernel
theorem dX3_takeSame_71 : decode cX3_takeSame 71 = .ok (.putfield 31, 3) := by decide +kernel
theorem dX3_takeSame_74 : decode cX3_takeSame 74 = .ok (.iconst 1, 1) := by decide +kernel
theorem dX3_takeSame_75 : decode cX3_takeSame 75 = .ok (.ireturn, 1) := by decide +kernel
theorem dX3_takePair_0 : decode cX3_takePair 0 = .ok (.aload_n 1, 1) := by decide +kernel
theorem dX3_takePair_1 : decode cX3_takePair 1 = .ok (.aload_n 0, 1) := by decide +kernel
theorem dX3_takePair_2 : decode cX3_takePair 2 = .ok (.getfield 31, 3) := by decide +kernel
theorem dX3_takePair_5 : decode cX3_takePair 5 = .ok (.invokevirtual 108, 3) := by decide +kernel
theorem dX3_takePair_8 : decode cX3_takePair 8 = .ok (.istore 4, 2) := by decide +kernel
theorem dX3_takePair_10 : decode cX3_takePair 10 = .ok (.iload 4, 2) := by decide +kernel
theorem dX3_takePair_12 : decode cX3_takePair 12 = .ok (.iconst (-1), 1) := by decide +kernel
theorem dX3_takePair_13 : decode cX3_takePair 13 = .ok (.if_icmp .ne 5, 3) := by decide +kernel
theorem dX3_takePair_16 : decode cX3_takePair 16 = .ok (.iconst 0, 1) := by decide +kernel
theorem dX3_takePair_17 : decode cX3_takePair 17 = .ok (.ireturn, 1) := by decide +kernel
theorem dX3_takePair_18 : decode cX3_takePair 18 = .ok (.aload_n 0, 1) := by decide +kernel
theorem dX3_takePair_19 : decode cX3_takePair 19 = .ok (.invokevirtual 104, 3) := by decide +kernel
theorem dX3_takePair_22 : decode cX3_takePair 22 = .ok (.ifCond .ne 6, 3) := by decide +kernel
theorem dX3_takePair_25 : decode cX3_takePair 25 = .ok (.bipush (-4), 2) := by decide +kernel
theorem dX3_takePair_27 : decode cX3_takePair 27 = .ok (.ireturn, 1) := by decide +kernel
theorem dX3_takePair_28 : decode cX3_takePair 28 = .ok (.iload 4, 2) := by decide +kernel
theorem dX3_takePair_30 : decode cX3_takePair 30 = .ok (.iload_n 2, 1) := by decide +kernel
theorem dX3_takePair_31 : decode cX3_takePair 31 = .ok (.if_icmp .ne 7, 3) := by decide +kernel
theorem dX3_takePair_34 : decode cX3_takePair 34 = .ok (.iconst 1, 1) := by decide +kernel
theorem dX3_takePair_35 : decode cX3_takePair 35 = .ok (.goto 4, 3) := by decide +kernel
theorem dX3_takePair_38 : decode cX3_takePair 38 = .ok (.iconst 0, 1) := by decide +kernel
theorem dX3_takePair_39 : decode cX3_takePair 39 = .ok (.istore 5, 2) := by decide +kernel
theorem dX3_takePair_41 : decode cX3_takePair 41 = .ok (.aload_n 0, 1) := by decide +kernel
theorem dX3_takePair_42 : decode cX3_takePair 42 = .ok (.getfield 31, 3) := by decide +kernel
theorem dX3_takePair_45 : decode cX3_takePair 45 = .ok (.iconst 1, 1) := by decide +kernel
theorem dX3_takePair_46 : decode cX3_takePair 46 = .ok (.iadd, 1) := by decide +kernel
theorem dX3_takePair_47 : decode cX3_takePair 47 = .ok (.istore 6, 2) := by decide +kernel
theorem dX3_takePair_49 : decode cX3_takePair 49 = .ok (.iload 6, 2) := by decide +kernel
theorem dX3_takePair_51 : decode cX3_takePair 51 = .ok (.aload_n 1, 1) := by decide +kernel
theorem dX3_takePair_52 : decode cX3_takePair 52 = .ok (.invokevirtual 98, 3) := by decide +kernel
theorem dX3_takePair_55 : decode cX3_takePair 55 = .ok (.if_icmp .ge 68, 3) := by decide +kernel
theorem dX3_takePair_58 : decode cX3_takePair 58 = .ok (.iload 5, 2) := by decide +kernel
theorem dX3_takePair_60 : decode cX3_takePair 60 = .ok (.ifCond .le 63, 3) := by decide +kernel
theorem dX3_takePair_63 : decode cX3_takePair 63 = .ok (.aload_n 0, 1) := by decide +kernel
theorem dX3_takePair_64 : decode cX3_takePair 64 = .ok (.invokevirtual 104, 3) := by decide +kernel
theorem dX3_takePair_67 : decode cX3_takePair 67 = .ok (.ifCond .ne 6, 3) := by decide +kernel
theorem dX3_takePair_70 : decode cX3_takePair 70 = .ok (.bipush (-4), 2) := by decide +kernel
theorem dX3_takePair_72 : decode cX3_takePair 72 = .ok (.ireturn, 1) := by decide +kernel
theorem dX3_takePair_73 : decode cX3_takePair 73 = .ok (.aload_n 1, 1) := by decide +kernel
theorem dX3_takePair_74 : decode cX3_takePair 74 = .ok (.iload 6, 2) := by decide +kernel
theorem dX3_takePair_76 : decode cX3_takePair 76 = .ok (.invokevirtual 108, 3) := by decide +kernel
theorem dX3_takePair_79 : decode cX3_takePair 79 = .ok (.istore 7, 2) := by decide +kernel
theorem dX3_takePair_81 : decode cX3_takePair 81 = .ok (.iload 7, 2) := by decide +kernel
theorem dX3_takePair_83 : decode cX3_takePair 83 = .ok (.iload_n 3, 1) := by decide +kernel
theorem dX3_takePair_84 : decode cX3_takePair 84 = .ok (.if_icmp .ne 9, 3) := by decide +kernel
theorem dX3_takePair_87 : decode cX3_takePair 87 = .ok (.iinc 5 (-1), 3) := by decide +kernel
theorem dX3_takePair_90 : decode cX3_takePair 90 = .ok (.goto 12, 3) := by decide +kernel
theorem dX3_takePair_93 : decode cX3_takePair 93 = .ok (.iload 7, 2) := by decide +kernel
theorem dX3_takePair_95 : decode cX3_takePair 95 = .ok (.iload_n 2, 1) := by decide +kernel
theorem dX3_takePair_96 : decode cX3_takePair 96 = .ok (.if_icmp .ne 6, 3) := by decide +kernel
theorem dX3_takePair_99 : decode cX3_takePair 99 = .ok (.iinc 5 1, 3) := by decide +kernel
theorem dX3_takePair_102 : decode cX3_takePair 102 = .ok (.iload 5, 2) := by decide +kernel
theorem dX3_takePair_104 : decode cX3_takePair 104 = .ok (.ifCond .ne 13, 3) := by decide +kernel
theorem dX3_takePair_107 : decode cX3_takePair 107 = .ok (.aload_n 0, 1) := by decide +kernel
theorem dX3_takePair_108 : decode cX3_takePair 108 = .ok (.iload 6, 2) := by decide +kernel
theorem dX3_takePair_110 : decode cX3_takePair 110 = .ok (.iconst 1, 1) := by decide +kernel
theorem dX3_takePair_111 : decode cX3_takePair 111 = .ok (.iadd, 1) := by decide +kernel
theorem dX3_takePair_112 : decode cX3_takePair 112 = .ok (.putfield 31, 3) := by decide +kernel
theorem dX3_takePair_115 : decode cX3_takePair 115 = .ok (.iconst 1, 1) := by decide +kernel
theorem dX3_takePair_116 : decode cX3_takePair 116 = .ok (.ireturn, 1) := by decide +kernel
theorem dX3_takePair_117 : decode cX3_takePair 117 = .ok (.iinc 6 1, 3) := by decide +kernel
theorem dX3_takePair_120 : decode cX3_takePair 120 = .ok (.goto (-71), 3) := by decide +kernel
theorem dX3_takePair_123 : decode cX3_takePair 123 = .ok (.iconst 0, 1) := by decide +kernel
theorem dX3_takePair_124 : decode cX3_takePair 124 = .ok (.ireturn, 1) := by decide +kernel
theorem dX3_takeSpecial_0 : decode cX3_takeSpecial 0 = .ok (.iload_n 3, 1) := by decide +kernel
theorem dX3_takeSpecial_1 : decode cX3_takeSpecial 1 = .ok (.tableswitch 147 4 10 #[43, 57, 43, 71, 101, 123, 130], 43) := by decide +kernel
theorem dX3_takeSpecial_44 : decode cX3_takeSpecial 44 = .ok (.aload_n 0, 1) := by decide +kernel
theorem dX3_takeSpecial_45 : decode cX3_takeSpecial 45 = .ok (.aload_n 1, 1) := by decide +kernel
theorem dX3_takeSpecial_46 : decode cX3_takeSpecial 46 = .ok (.aload_n 0, 1) := by decide +kernel
theorem dX3_takeSpecial_47 : decode cX3_takeSpecial 47 = .ok (.getfield 37, 3) := by decide +kernel
theorem dX3_takeSpecial_50 : decode cX3_takeSpecial 50 = .ok (.invokevirtual 72, 3) := by decide +kernel
theorem dX3_takeSpecial_53 : decode cX3_takeSpecial 53 = .ok (.invokevirtual 75, 3) := by decide +kernel
theorem dX3_takeSpecial_56 : decode cX3_takeSpecial 56 = .ok (.iconst 1, 1) := by decide +kernel
theorem dX3_takeSpecial_57 : decode cX3_takeSpecial 57 = .ok (.ireturn, 1) := by decide +kernel
theorem dX3_takeSpecial_58 : decode cX3_takeSpecial 58 = .ok (.aload_n 0, 1) := by decide +kernel
theorem dX3_takeSpecial_59 : decode cX3_takeSpecial 59 = .ok (.aload_n 1, 1) := by decide +kernel
theorem dX3_takeSpecial_60 : decode cX3_takeSpecial 60 = .ok (.aload_n 0, 1) := by decide +kernel
theorem dX3_takeSpecial_61 : decode cX3_takeSpecial 61 = .ok (.getfield 37, 3) := by decide +kernel
theorem dX3_takeSpecial_64 : decode cX3_takeSpecial 64 = .ok (.invokevirtual 72, 3) := by decide +kernel
theorem dX3_takeSpecial_67 : decode cX3_takeSpecial 67 = .ok (.invokevirtual 79, 3) := by decide +kernel
theorem dX3_takeSpecial_70 : decode cX3_takeSpecial 70 = .ok (.iconst 1, 1) := by decide +kernel
theorem dX3_takeSpecial_71 : decode cX3_takeSpecial 71 = .ok (.ireturn, 1) := by decide +kernel
theorem dX3_takeSpecial_72 : decode cX3_takeSpecial 72 = .ok (.aload_n 0, 1) := by decide +kernel
theorem dX3_takeSpecial_73 : decode cX3_takeSpecial 73 = .ok (.aload_n 2, 1) := by decide +kernel
theorem dX3_takeSpecial_74 : decode cX3_takeSpecial 74 = .ok (.aload_n 0, 1) := by decide +kernel
theorem dX3_takeSpecial_75 : decode cX3_takeSpecial 75 = .ok (.aload_n 1, 1) := by decide +kernel
theorem dX3_takeSpecial_76 : decode cX3_takeSpecial 76 = .ok (.aload_n 0, 1) := by decide +kernel
theorem dX3_takeSpecial_77 : decode cX3_takeSpecial 77 = .ok (.getfield 37, 3) := by decide +kernel
theorem dX3_takeSpecial_80 : decode cX3_takeSpecial 80 = .ok (.invokevirtual 72, 3) := by decide +kernel
theorem dX3_takeSpecial_83 : decode cX3_takeSpecial 83 = .ok (.invokevirtual 82, 3) := by decide +kernel
theorem dX3_takeSpecial_86 : decode cX3_takeSpecial 86 = .ok (.aload_n 0, 1) := by decide +kernel
theorem dX3_takeSpecial_87 : decode cX3_takeSpecial 87 = .ok (.aload_n 1, 1) := by decide +kernel
theorem dX3_takeSpecial_88 : decode cX3_takeSpecial 88 = .ok (.aload_n 0, 1) := by decide +kernel
theorem dX3_takeSpecial_89 : decode cX3_takeSpecial 89 = .ok (.getfield 37, 3) := by decide +kernel
theorem dX3_takeSpecial_92 : decode cX3_takeSpecial 92 = .ok (.invokevirtual 72, 3) := by decide +kernel
theorem dX3_takeSpecial_95 : decode cX3_takeSpecial 95 = .ok (.invokevirtual 85, 3) := by decide +kernel
theorem dX3_takeSpecial_98 : decode cX3_takeSpecial 98 = .ok (.invokevirtual 88, 3) := by decide +kernel
theorem dX3_takeSpecial_101 : decode cX3_takeSpecial 101 = .ok (.ireturn, 1) := by decide +kernel
theorem dX3_takeSpecial_102 : decode cX3_takeSpecial 102 = .ok (.aload_n 0, 1) := by decide +kernel
theorem dX3_takeSpecial_103 : decode cX3_takeSpecial 103 = .ok (.aload_n 2, 1) := by decide +kernel
theorem dX3_takeSpecial_104 : decode cX3_takeSpecial 104 = .ok (.aload_n 1, 1) := by decide +kernel
theorem dX3_takeSpecial_105 : decode cX3_takeSpecial 105 = .ok (.aload_n 0, 1) := by decide +kernel
theorem dX3_takeSpecial_106 : decode cX3_takeSpecial 106 = .ok (.getfield 37, 3) := by decide +kernel
theorem dX3_takeSpecial_109 : decode cX3_takeSpecial 109 = .ok (.invokevirtual 72, 3) := by decide +kernel
theorem dX3_takeSpecial_112 : decode cX3_takeSpecial 112 = .ok (.aload_n 1, 1) := by decide +kernel
theorem dX3_takeSpecial_113 : decode cX3_takeSpecial 113 = .ok (.aload_n 0, 1) := by decide +kernel
theorem dX3_takeSpecial_114 : decode cX3_takeSpecial 114 = .ok (.getfield 37, 3) := by decide +kernel
theorem dX3_takeSpecial_117 : decode cX3_takeSpecial 117 = .ok (.invokevirtual 65, 3) := by decide +kernel
theorem dX3_takeSpecial_120 : decode cX3_takeSpecial 120 = .ok (.invokevirtual 92, 3) := by decide +kernel
theorem dX3_takeSpecial_123 : decode cX3_takeSpecial 123 = .ok (.ireturn, 1) := by decide +kernel
theorem dX3_takeSpecial_124 : decode cX3_takeSpecial 124 = .ok (.aload_n 0, 1) := by decide +kernel
theorem dX3_takeSpecial_125 : decode cX3_takeSpecial 125 = .ok (.aload_n 1, 1) := by decide +kernel
theorem dX3_takeSpecial_126 : decode cX3_takeSpecial 126 = .ok (.aload_n 2, 1) := by decide +kernel
theorem dX3_takeSpecial_127 : decode cX3_takeSpecial 127 = .ok (.invokevirtual 95, 3) := by decide +kernel
theorem dX3_takeSpecial_130 : decode cX3_takeSpecial 130 = .ok (.ireturn, 1) := by decide +kernel
theorem dX3_takeSpecial_131 : decode cX3_takeSpecial 131 = .ok (.aload_n 0, 1) := by decide +kernel
theorem dX3_takeSpecial_132 : decode cX3_takeSpecial 132 = .ok (.getfield 31, 3) := by decide +kernel
theorem dX3_takeSpecial_135 : decode cX3_takeSpecial 135 = .ok (.aload_n 2, 1) := by decide +kernel
theorem dX3_takeSpecial_136 : decode cX3_takeSpecial 136 = .ok (.invokevirtual 98, 3) := by decide +kernel
theorem dX3_takeSpecial_139 : decode cX3_takeSpecial 139 = .ok (.if_icmp .ne 7, 3) := by decide +kernel
theorem dX3_takeSpecial_142 : decode cX3_takeSpecial 142 = .ok (.iconst 1, 1) := by decide +kernel
theorem dX3_takeSpecial_143 : decode cX3_takeSpecial 143 = .ok (.goto 4, 3) := by decide +kernel
theorem dX3_takeSpecial_146 : decode cX3_takeSpecial 146 = .ok (.iconst 0, 1) := by decide +kernel
theorem dX3_takeSpecial_147 : decode cX3_takeSpecial 147 = .ok (.ireturn, 1) := by decide +kernel
theorem dX3_takeSpecial_148 : decode cX3_takeSpecial 148 = .ok (.bipush (-2), 2) := by decide +kernel
theorem dX3_takeSpecial_150 : decode cX3_takeSpecial 150 = .ok (.ireturn, 1) := by decide +kernel
theorem dX3_takeRepeated_0 : decode cX3_takeRepeated 0 = .ok (.iload_n 3, 1) := by decide +kernel
theorem dX3_takeRepeated_1 : decode cX3_takeRepeated 1 = .ok (.iconst 3, 1) := by decide +kernel
theorem dX3_takeRepeated_2 : decode cX3_takeRepeated 2 = .ok (.if_icmp .ne 17, 3) := by decide +kernel
theorem dX3_takeRepeated_5 : decode cX3_takeRepeated 5 = .ok (.aload_n 0, 1) := by decide +kernel
theorem dX3_takeRepeated_6 : decode cX3_takeRepeated 6 = .ok (.aload_n 0, 1) := by decide +kernel
theorem dX3_takeRepeated_7 : decode cX3_takeRepeated 7 = .ok (.getfield 31, 3) := by decide +kernel
theorem dX3_takeRepeated_10 : decode cX3_takeRepeated 10 = .ok (.aload_n 0, 1) := by decide +kernel
theorem dX3_takeRepeated_11 : decode cX3_takeRepeated 11 = .ok (.getfield 31, 3) := by decide +kernel
theorem dX3_takeRepeated_14 : decode cX3_takeRepeated 14 = .ok (.invokevirtual 61, 3) := by decide +kernel
theorem dX3_takeRepeated_17 : decode cX3_takeRepeated 17 = .ok (.iconst 1, 1) := by decide +kernel
theorem dX3_takeRepeated_18 : decode cX3_takeRepeated 18 = .ok (.ireturn, 1) := by decide +kernel
theorem dX3_takeRepeated_19 : decode cX3_takeRepeated 19 = .ok (.aload_n 1, 1) := by decide +kernel
theorem dX3_takeRepeated_20 : decode cX3_takeRepeated 20 = .ok (.aload_n 0, 1) := by decide +kernel
theorem dX3_takeRepeated_21 : decode cX3_takeRepeated 21 = .ok (.getfield 37, 3) := by decide +kernel
theorem dX3_takeRepeated_24 : decode cX3_takeRepeated 24 = .ok (.invokevirtual 65, 3) := by decide +kernel
theorem dX3_takeRepeated_27 : decode cX3_takeRepeated 27 = .ok (.istore 4, 2) := by decide +kernel
theorem dX3_takeRepeated_29 : decode cX3_takeRepeated 29 = .ok (.aload_n 0, 1) := by decide +kernel
theorem dX3_takeRepeated_30 : decode cX3_takeRepeated 30 = .ok (.getfield 31, 3) := by decide +kernel
theorem dX3_takeRepeated_33 : decode cX3_takeRepeated 33 = .ok (.istore 5, 2) := by decide +kernel
theorem dX3_takeRepeated_35 : decode cX3_takeRepeated 35 = .ok (.iconst 1, 1) := by decide +kernel
theorem dX3_takeRepeated_36 : decode cX3_takeRepeated 36 = .ok (.istore 6, 2) := by decide +kernel
theorem dX3_takeRepeated_38 : decode cX3_takeRepeated 38 = .ok (.iconst 0, 1) := by decide +kernel
theorem dX3_takeRepeated_39 : decode cX3_takeRepeated 39 = .ok (.istore 7, 2) := by decide +kernel
theorem dX3_takeRepeated_41 : decode cX3_takeRepeated 41 = .ok (.iload 7, 2) := by decide +kernel
theorem dX3_takeRepeated_43 : decode cX3_takeRepeated 43 = .ok (.iload 4, 2) := by decide +kernel
theorem dX3_takeRepeated_45 : decode cX3_takeRepeated 45 = .ok (.if_icmp .ge 38, 3) := by decide +kernel
theorem dX3_takeRepeated_48 : decode cX3_takeRepeated 48 = .ok (.iload 6, 2) := by decide +kernel
theorem dX3_takeRepeated_50 : decode cX3_takeRepeated 50 = .ok (.iconst 1, 1) := by decide +kernel
theorem dX3_takeRepeated_51 : decode cX3_takeRepeated 51 = .ok (.if_icmp .ne 32, 3) := by decide +kernel
theorem dX3_takeRepeated_54 : decode cX3_takeRepeated 54 = .ok (.aload_n 0, 1) := by decide +kernel
theorem dX3_takeRepeated_55 : decode cX3_takeRepeated 55 = .ok (.aload_n 1, 1) := by decide +kernel
theorem dX3_takeRepeated_56 : decode cX3_takeRepeated 56 = .ok (.aload_n 2, 1) := by decide +kernel
theorem dX3_takeRepeated_57 : decode cX3_takeRepeated 57 = .ok (.aload_n 0, 1) := by decide +kernel
theorem dX3_takeRepeated_58 : decode cX3_takeRepeated 58 = .ok (.getfield 37, 3) := by decide +kernel
theorem dX3_takeRepeated_61 : decode cX3_takeRepeated 61 = .ok (.iload 5, 2) := by decide +kernel
theorem dX3_takeRepeated_63 : decode cX3_takeRepeated 63 = .ok (.invokevirtual 68, 3) := by decide +kernel
theorem dX3_takeRepeated_66 : decode cX3_takeRepeated 66 = .ok (.istore 6, 2) := by decide +kernel
theorem dX3_takeRepeated_68 : decode cX3_takeRepeated 68 = .ok (.iload 6, 2) := by decide +kernel
theorem dX3_takeRepeated_70 : decode cX3_takeRepeated 70 = .ok (.iconst 1, 1) := by decide +kernel
theorem dX3_takeRepeated_71 : decode cX3_takeRepeated 71 = .ok (.if_icmp .ne 6, 3) := by decide +kernel
theorem dX3_takeRepeated_74 : decode cX3_takeRepeated 74 = .ok (.iinc 5 1, 3) := by decide +kernel
theorem dX3_takeRepeated_77 : decode cX3_takeRepeated 77 = .ok (.iinc 7 1, 3) := by decide +kernel
theorem dX3_takeRepeated_80 : decode cX3_takeRepeated 80 = .ok (.goto (-39), 3) := by decide +kernel
theorem dX3_takeRepeated_83 : decode cX3_takeRepeated 83 = .ok (.iload 6, 2) := by decide +kernel
theorem dX3_takeRepeated_85 : decode cX3_takeRepeated 85 = .ok (.bipush (-4), 2) := by decide +kernel
theorem dX3_takeRepeated_87 : decode cX3_takeRepeated 87 = .ok (.if_icmp .ne 6, 3) := by decide +kernel
theorem dX3_takeRepeated_90 : decode cX3_takeRepeated 90 = .ok (.bipush (-4), 2) := by decide +kernel
theorem dX3_takeRepeated_92 : decode cX3_takeRepeated 92 = .ok (.ireturn, 1) := by decide +kernel
theorem dX3_takeRepeated_93 : decode cX3_takeRepeated 93 = .ok (.aload_n 0, 1) := by decide +kernel
theorem dX3_takeRepeated_94 : decode cX3_takeRepeated 94 = .ok (.getfield 31, 3) := by decide +kernel
theorem dX3_takeRepeated_97 : decode cX3_takeRepeated 97 = .ok (.aload_n 1, 1) := by decide +kernel
theorem dX3_takeRepeated_98 : decode cX3_takeRepeated 98 = .ok (.aload_n 0, 1) := by decide +kernel
theorem dX3_takeRepeated_99 : decode cX3_takeRepeated 99 = .ok (.getfield 37, 3) := by decide +kernel
theorem dX3_takeRepeated_102 : decode cX3_takeRepeated 102 = .ok (.invokevirtual 72, 3) := by decide +kernel
theorem dX3_takeRepeated_105 : decode cX3_takeRepeated 105 = .ok (.iadd, 1) := by decide +kernel
theorem dX3_takeRepeated_106 : decode cX3_takeRepeated 106 = .ok (.istore 7, 2) := by decide +kernel
theorem dX3_takeRepeated_108 : decode cX3_takeRepeated 108 = .ok (.iload 5, 2) := by decide +kernel
theorem dX3_takeRepeated_110 : decode cX3_takeRepeated 110 = .ok (.iload 7, 2) := by decide +kernel
theorem dX3_takeRepeated_112 : decode cX3_takeRepeated 112 = .ok (.if_icmp .ge 5, 3) := by decide +kernel
theorem dX3_takeRepeated_115 : decode cX3_takeRepeated 115 = .ok (.iconst 0, 1) := by decide +kernel
theorem dX3_takeRepeated_116 : decode cX3_takeRepeated 116 = .ok (.ireturn, 1) := by decide +kernel
theorem dX3_takeRepeated_117 : decode cX3_takeRepeated 117 = .ok (.iload 5, 2) := by decide +kernel
theorem dX3_takeRepeated_119 : decode cX3_takeRepeated 119 = .ok (.iload 7, 2) := by decide +kernel
theorem dX3_takeRepeated_121 : decode cX3_takeRepeated 121 = .ok (.if_icmp .le 11, 3) := by decide +kernel
theorem dX3_takeRepeated_124 : decode cX3_takeRepeated 124 = .ok (.aload_n 0, 1) := by decide +kernel
theorem dX3_takeRepeated_125 : decode cX3_takeRepeated 125 = .ok (.iload 7, 2) := by decide +kernel
theorem dX3_takeRepeated_127 : decode cX3_takeRepeated 127 = .ok (.iload 5, 2) := by decide +kernel
theorem dX3_takeRepeated_129 : decode cX3_takeRepeated 129 = .ok (.invokevirtual 61, 3) := by decide +kernel
theorem dX3_takeRepeated_132 : decode cX3_takeRepeated 132 = .ok (.aload_n 0, 1) := by decide +kernel
theorem dX3_takeRepeated_133 : decode cX3_takeRepeated 133 = .ok (.iload 5, 2) := by decide +kernel
theorem dX3_takeRepeated_135 : decode cX3_takeRepeated 135 = .ok (.putfield 31, 3) := by decide +kernel
theorem dX3_takeRepeated_138 : decode cX3_takeRepeated 138 = .ok (.iconst 1, 1) := by decide +kernel
theorem dX3_takeRepeated_139 : decode cX3_takeRepeated 139 = .ok (.ireturn, 1) := by decide +kernel
theorem dX3_goOn_0 : decode cX3_goOn 0 = .ok (.iconst 0, 1) := by decide +kernel
theorem dX3_goOn_1 : decode cX3_goOn 1 = .ok (.istore_n 3, 1) := by decide +kernel
theorem dX3_goOn_2 : decode cX3_goOn 2 = .ok (.iload_n 3, 1) := by decide +kernel
theorem dX3_goOn_3 : decode cX3_goOn 3 = .ok (.sipush 513, 3) := by decide +kernel
theorem dX3_goOn_6 : decode cX3_goOn 6 = .ok (.if_icmp .ge 79, 3) := by decide +kernel
theorem dX3_goOn_9 : decode cX3_goOn 9 = .ok (.aload_n 1, 1) := by decide +kernel
theorem dX3_goOn_10 : decode cX3_goOn 10 = .ok (.aload_n 0, 1) := by decide +kernel
theorem dX3_goOn_11 : decode cX3_goOn 11 = .ok (.getfield 37, 3) := by decide +kernel
theorem dX3_goOn_14 : decode cX3_goOn 14 = .ok (.invokevirtual 48, 3) := by decide +kernel
theorem dX3_goOn_17 : decode cX3_goOn 17 = .ok (.istore 4, 2) := by decide +kernel
theorem dX3_goOn_19 : decode cX3_goOn 19 = .ok (.iload 4, 2) := by decide +kernel
theorem dX3_goOn_21 : decode cX3_goOn 21 = .ok (.iconst 1, 1) := by decide +kernel
theorem dX3_goOn_22 : decode cX3_goOn 22 = .ok (.if_icmp .ne 5, 3) := by decide +kernel
theorem dX3_goOn_25 : decode cX3_goOn 25 = .ok (.iconst 1, 1) := by decide +kernel
theorem dX3_goOn_26 : decode cX3_goOn 26 = .ok (.ireturn, 1) := by decide +kernel
theorem dX3_goOn_27 : decode cX3_goOn 27 = .ok (.iload 4, 2) := by decide +kernel
theorem dX3_goOn_29 : decode cX3_goOn 29 = .ok (.iconst 2, 1) := by decide +kernel
theorem dX3_goOn_30 : decode cX3_goOn 30 = .ok (.if_icmp .eq 9, 3) := by decide +kernel
theorem dX3_goOn_33 : decode cX3_goOn 33 = .ok (.iload 4, 2) := by decide +kernel
theorem dX3_goOn_35 : decode cX3_goOn 35 = .ok (.iconst 3, 1) := by decide +kernel
theorem dX3_goOn_36 : decode cX3_goOn 36 = .ok (.if_icmp .ne 14, 3) := by decide +kernel
theorem dX3_goOn_39 : decode cX3_goOn 39 = .ok (.aload_n 0, 1) := by decide +kernel
theorem dX3_goOn_40 : decode cX3_goOn 40 = .ok (.aload_n 1, 1) := by decide +kernel
theorem dX3_goOn_41 : decode cX3_goOn 41 = .ok (.aload_n 2, 1) := by decide +kernel
theorem dX3_goOn_42 : decode cX3_goOn 42 = .ok (.iload 4, 2) := by decide +kernel
theorem dX3_goOn_44 : decode cX3_goOn 44 = .ok (.invokevirtual 54, 3) := by decide +kernel
theorem dX3_goOn_47 : decode cX3_goOn 47 = .ok (.goto 11, 3) := by decide +kernel
theorem dX3_goOn_50 : decode cX3_goOn 50 = .ok (.aload_n 0, 1) := by decide +kernel
theorem dX3_goOn_51 : decode cX3_goOn 51 = .ok (.aload_n 1, 1) := by decide +kernel
theorem dX3_goOn_52 : decode cX3_goOn 52 = .ok (.aload_n 2, 1) := by decide +kernel
theorem dX3_goOn_53 : decode cX3_goOn 53 = .ok (.iload 4, 2) := by decide +kernel
theorem dX3_goOn_55 : decode cX3_goOn 55 = .ok (.invokevirtual 58, 3) := by decide +kernel
theorem dX3_goOn_58 : decode cX3_goOn 58 = .ok (.istore 5, 2) := by decide +kernel
theorem dX3_goOn_60 : decode cX3_goOn 60 = .ok (.iload 5, 2) := by decide +kernel
theorem dX3_goOn_62 : decode cX3_goOn 62 = .ok (.iconst 1, 1) := by decide +kernel
theorem dX3_goOn_63 : decode cX3_goOn 63 = .ok (.if_icmp .eq 6, 3) := by decide +kernel
theorem dX3_goOn_66 : decode cX3_goOn 66 = .ok (.iload 5, 2) := by decide +kernel
theorem dX3_goOn_68 : decode cX3_goOn 68 = .ok (.ireturn, 1) := by decide +kernel
theorem dX3_goOn_69 : decode cX3_goOn 69 = .ok (.aload_n 0, 1) := by decide +kernel
theorem dX3_goOn_70 : decode cX3_goOn 70 = .ok (.dup, 1) := by decide +kernel
theorem dX3_goOn_71 : decode cX3_goOn 71 = .ok (.getfield 37, 3) := by decide +kernel
theorem dX3_goOn_74 : decode cX3_goOn 74 = .ok (.iconst 1, 1) := by decide +kernel
theorem dX3_goOn_75 : decode cX3_goOn 75 = .ok (.iadd, 1) := by decide +kernel
theorem dX3_goOn_76 : decode cX3_goOn 76 = .ok (.putfield 37, 3) := by decide +kernel
theorem dX3_goOn_79 : decode cX3_goOn 79 = .ok (.iinc 3 1, 3) := by decide +kernel
theorem dX3_goOn_82 : decode cX3_goOn 82 = .ok (.goto (-80), 3) := by decide +kernel
theorem dX3_goOn_85 : decode cX3_goOn 85 = .ok (.bipush (-2), 2) := by decide +kernel
theorem dX3_goOn_87 : decode cX3_goOn 87 = .ok (.ireturn, 1) := by decide +kernel
theorem dX3_changeChoice_0 : decode cX3_changeChoice 0 = .ok (.iload_n 3, 1) := by decide +kernel
theorem dX3_changeChoice_1 : decode cX3_changeChoice 1 = .ok (.ifCond .lt 30, 3) := by decide +kernel
theorem dX3_changeChoice_4 : decode cX3_changeChoice 4 = .ok (.iload_n 3, 1) := by decide +kernel
theorem dX3_changeChoice_5 : decode cX3_changeChoice 5 = .ok (.aload_n 0, 1) := by decide +kernel
theorem dX3_changeChoice_6 : decode cX3_changeChoice 6 = .ok (.getfield 9, 3) := by decide +kernel
theorem dX3_changeChoice_9 : decode cX3_changeChoice 9 = .ok (.arraylength, 1) := by decide +kernel
theorem dX3_changeChoice_10 : decode cX3_changeChoice 10 = .ok (.if_icmp .ge 21, 3) := by decide +kernel
theorem dX3_changeChoice_13 : decode cX3_changeChoice 13 = .ok (.iload_n 3, 1) := by decide +kernel
theorem dX3_changeChoice_14 : decode cX3_changeChoice 14 = .ok (.aload_n 0, 1) := by decide +kernel
theorem dX3_changeChoice_15 : decode cX3_changeChoice 15 = .ok (.getfield 15, 3) := by decide +kernel
theorem dX3_changeChoice_18 : decode cX3_changeChoice 18 = .ok (.arraylength, 1) := by decide +kernel
theorem dX3_changeChoice_19 : decode cX3_changeChoice 19 = .ok (.if_icmp .ge 12, 3) := by decide +kernel
theorem dX3_changeChoice_22 : decode cX3_changeChoice 22 = .ok (.iload_n 3, 1) := by decide +kernel
theorem dX3_changeChoice_23 : decode cX3_changeChoice 23 = .ok (.aload_n 0, 1) := by decide +kernel
theorem dX3_changeChoice_24 : decode cX3_changeChoice 24 = .ok (.getfield 18, 3) := by decide +kernel
theorem dX3_changeChoice_27 : decode cX3_changeChoice 27 = .ok (.arraylength, 1) := by decide +kernel
theorem dX3_changeChoice_28 : decode cX3_changeChoice 28 = .ok (.if_icmp .lt 5, 3) := by decide +kernel
theorem dX3_changeChoice_31 : decode cX3_changeChoice 31 = .ok (.iconst 0, 1) := by decide +kernel
theorem dX3_changeChoice_32 : decode cX3_changeChoice 32 = .ok (.ireturn, 1) := by decide +kernel
theorem dX3_changeChoice_33 : decode cX3_changeChoice 33 = .ok (.aload_n 0, 1) := by decide +kernel
theorem dX3_changeChoice_34 : decode cX3_changeChoice 34 = .ok (.getfield 9, 3) := by decide +kernel
theorem dX3_changeChoice_37 : decode cX3_changeChoice 37 = .ok (.iload_n 3, 1) := by decide +kernel
theorem dX3_changeChoice_38 : decode cX3_changeChoice 38 = .ok (.iaload, 1) := by decide +kernel
theorem dX3_changeChoice_39 : decode cX3_changeChoice 39 = .ok (.istore 4, 2) := by decide +kernel
theorem dX3_changeChoice_41 : decode cX3_changeChoice 41 = .ok (.aload_n 0, 1) := by decide +kernel
theorem dX3_changeChoice_42 : decode cX3_changeChoice 42 = .ok (.getfield 18, 3) := by decide +kernel
theorem dX3_changeChoice_45 : decode cX3_changeChoice 45 = .ok (.iload_n 3, 1) := by decide +kernel
theorem dX3_changeChoice_46 : decode cX3_changeChoice 46 = .ok (.iaload, 1) := by decide +kernel
theorem dX3_changeChoice_47 : decode cX3_changeChoice 47 = .ok (.istore 5, 2) := by decide +kernel
theorem dX3_changeChoice_49 : decode cX3_changeChoice 49 = .ok (.aload_n 1, 1) := by decide +kernel
theorem dX3_changeChoice_50 : decode cX3_changeChoice 50 = .ok (.iload 4, 2) := by decide +kernel
theorem dX3_changeChoice_52 : decode cX3_changeChoice 52 = .ok (.invokevirtual 48, 3) := by decide +kernel
theorem dX3_changeChoice_55 : decode cX3_changeChoice 55 = .ok (.iconst 3, 1) := by decide +kernel
theorem dX3_changeChoice_56 : decode cX3_changeChoice 56 = .ok (.if_icmp .ne 30, 3) := by decide +kernel
theorem dX3_changeChoice_59 : decode cX3_changeChoice 59 = .ok (.aload_n 0, 1) := by decide +kernel
theorem dX3_changeChoice_60 : decode cX3_changeChoice 60 = .ok (.aload_n 1, 1) := by decide +kernel
theorem dX3_changeChoice_61 : decode cX3_changeChoice 61 = .ok (.aload_n 2, 1) := by decide +kernel
theorem dX3_changeChoice_62 : decode cX3_changeChoice 62 = .ok (.iload 4, 2) := by decide +kernel
theorem dX3_changeChoice_64 : decode cX3_changeChoice 64 = .ok (.iload 5, 2) := by decide +kernel
theorem dX3_changeChoice_66 : decode cX3_changeChoice 66 = .ok (.invokevirtual 68, 3) := by decide +kernel
theorem dX3_changeChoice_69 : decode cX3_changeChoice 69 = .ok (.istore 6, 2) := by decide +kernel
theorem dX3_changeChoice_71 : decode cX3_changeChoice 71 = .ok (.iload 6, 2) := by decide +kernel
theorem dX3_changeChoice_73 : decode cX3_changeChoice 73 = .ok (.iconst 1, 1) := by decide +kernel
theorem dX3_changeChoice_74 : decode cX3_changeChoice 74 = .ok (.if_icmp .eq 6, 3) := by decide +kernel
theorem dX3_changeChoice_77 : decode cX3_changeChoice 77 = .ok (.iload 6, 2) := by decide +kernel
theorem dX3_changeChoice_79 : decode cX3_changeChoice 79 = .ok (.ireturn, 1) := by decide +kernel
theorem dX3_changeChoice_80 : decode cX3_changeChoice 80 = .ok (.iinc 5 1, 3) := by decide +kernel
theorem dX3_changeChoice_83 : decode cX3_changeChoice 83 = .ok (.goto 22, 3) := by decide +kernel
theorem dX3_changeChoice_86 : decode cX3_changeChoice 86 = .ok (.iload 5, 2) := by decide +kernel
theorem dX3_changeChoice_88 : decode cX3_changeChoice 88 = .ok (.aload_n 0, 1) := by decide +kernel
theorem dX3_changeChoice_89 : decode cX3_changeChoice 89 = .ok (.getfield 15, 3) := by decide +kernel
theorem dX3_changeChoice_92 : decode cX3_changeChoice 92 = .ok (.iload_n 3, 1) := by decide +kernel
theorem dX3_changeChoice_93 : decode cX3_changeChoice 93 = .ok (.iaload, 1) := by decide +kernel
theorem dX3_changeChoice_94 : decode cX3_changeChoice 94 = .ok (.if_icmp .le 9, 3) := by decide +kernel
theorem dX3_changeChoice_97 : decode cX3_changeChoice 97 = .ok (.iinc 5 (-1), 3) := by decide +kernel
theorem dX3_changeChoice_100 : decode cX3_changeChoice 100 = .ok (.goto 5, 3) := by decide +kernel
theorem dX3_changeChoice_103 : decode cX3_changeChoice 103 = .ok (.iconst 0, 1) := by decide +kernel
theorem dX3_changeChoice_104 : decode cX3_changeChoice 104 = .ok (.ireturn, 1) := by decide +kernel
theorem dX3_changeChoice_105 : decode cX3_changeChoice 105 = .ok (.aload_n 0, 1) := by decide +kernel
theorem dX3_changeChoice_106 : decode cX3_changeChoice 106 = .ok (.getfield 18, 3) := by decide +kernel
theorem dX3_changeChoice_109 : decode cX3_changeChoice 109 = .ok (.iload_n 3, 1) := by decide +kernel
theorem dX3_changeChoice_110 : decode cX3_changeChoice 110 = .ok (.iload 5, 2) := by decide +kernel
theorem dX3_changeChoice_112 : decode cX3_changeChoice 112 = .ok (.iastore, 1) := by decide +kernel
theorem dX3_changeChoice_113 : decode cX3_changeChoice 113 = .ok (.aload_n 0, 1) := by decide +kernel
theorem dX3_changeChoice_114 : decode cX3_changeChoice 114 = .ok (.iload 5, 2) := by decide +kernel
theorem dX3_changeChoice_116 : decode cX3_changeChoice 116 = .ok (.putfield 31, 3) := by decide +kernel
theorem dX3_changeChoice_119 : decode cX3_changeChoice 119 = .ok (.aload_n 0, 1) := by decide +kernel
theorem dX3_changeChoice_120 : decode cX3_changeChoice 120 = .ok (.iload 4, 2) := by decide +kernel
theorem dX3_changeChoice_122 : decode cX3_changeChoice 122 = .ok (.iconst 1, 1) := by decide +kernel
theorem dX3_changeChoice_123 : decode cX3_changeChoice 123 = .ok (.iadd, 1) := by decide +kernel
theorem dX3_changeChoice_124 : decode cX3_changeChoice 124 = .ok (.putfield 37, 3) := by decide +kernel
theorem dX3_changeChoice_127 : decode cX3_changeChoice 127 = .ok (.iconst 1, 1) := by decide +kernel
theorem dX3_changeChoice_128 : decode cX3_changeChoice 128 = .ok (.ireturn, 1) := by decide +kernel
theorem dX3_tryNextWay_0 : decode cX3_tryNextWay 0 = .ok (.aload_n 0, 1) := by decide +kernel
theorem dX3_tryNextWay_1 : decode cX3_tryNextWay 1 = .ok (.getfield 34, 3) := by decide +kernel
theorem dX3_tryNextWay_4 : decode cX3_tryNextWay 4 = .ok (.iconst 1, 1) := by decide +kernel
theorem dX3_tryNextWay_5 : decode cX3_tryNextWay 5 = .ok (.isub, 1) := by decide +kernel
theorem dX3_tryNextWay_6 : decode cX3_tryNextWay 6 = .ok (.istore_n 3, 1) := by decide +kernel
theorem dX3_tryNextWay_7 : decode cX3_tryNextWay 7 = .ok (.iload_n 3, 1) := by decide +kernel
theorem dX3_tryNextWay_8 : decode cX3_tryNextWay 8 = .ok (.ifCond .lt 33, 3) := by decide +kernel
theorem dX3_tryNextWay_11 : decode cX3_tryNextWay 11 = .ok (.aload_n 0, 1) := by decide +kernel
theorem dX3_tryNextWay_12 : decode cX3_tryNextWay 12 = .ok (.aload_n 1, 1) := by decide +kernel
theorem dX3_tryNextWay_13 : decode cX3_tryNextWay 13 = .ok (.aload_n 2, 1) := by decide +kernel
theorem dX3_tryNextWay_14 : decode cX3_tryNextWay 14 = .ok (.iload_n 3, 1) := by decide +kernel
theorem dX3_tryNextWay_15 : decode cX3_tryNextWay 15 = .ok (.invokevirtual 127, 3) := by decide +kernel
theorem dX3_tryNextWay_18 : decode cX3_tryNextWay 18 = .ok (.istore 4, 2) := by decide +kernel
theorem dX3_tryNextWay_20 : decode cX3_tryNextWay 20 = .ok (.iload 4, 2) := by decide +kernel
theorem dX3_tryNextWay_22 : decode cX3_tryNextWay 22 = .ok (.ifCond .eq 13, 3) := by decide +kernel
theorem dX3_tryNextWay_25 : decode cX3_tryNextWay 25 = .ok (.aload_n 0, 1) := by decide +kernel
theorem dX3_tryNextWay_26 : decode cX3_tryNextWay 26 = .ok (.iload_n 3, 1) := by decide +kernel
theorem dX3_tryNextWay_27 : decode cX3_tryNextWay 27 = .ok (.iconst 1, 1) := by decide +kernel
theorem dX3_tryNextWay_28 : decode cX3_tryNextWay 28 = .ok (.iadd, 1) := by decide +kernel
theorem dX3_tryNextWay_29 : decode cX3_tryNextWay 29 = .ok (.putfield 34, 3) := by decide +kernel
theorem dX3_tryNextWay_32 : decode cX3_tryNextWay 32 = .ok (.iload 4, 2) := by decide +kernel
theorem dX3_tryNextWay_34 : decode cX3_tryNextWay 34 = .ok (.ireturn, 1) := by decide +kernel
theorem dX3_tryNextWay_35 : decode cX3_tryNextWay 35 = .ok (.iinc 3 (-1), 3) := by decide +kernel
theorem dX3_tryNextWay_38 : decode cX3_tryNextWay 38 = .ok (.goto (-31), 3) := by decide +kernel
theorem dX3_tryNextWay_41 : decode cX3_tryNextWay 41 = .ok (.iconst 0, 1) := by decide +kernel
theorem dX3_tryNextWay_42 : decode cX3_tryNextWay 42 = .ok (.ireturn, 1) := by decide +kernel
theorem dX3_matchAt_0 : decode cX3_matchAt 0 = .ok (.aload_n 0, 1) := by decide +kernel
theorem dX3_matchAt_1 : decode cX3_matchAt 1 = .ok (.iconst 0, 1) := by decide +kernel
theorem dX3_matchAt_2 : decode cX3_matchAt 2 = .ok (.putfield 34, 3) := by decide +kernel
theorem dX3_matchAt_5 : decode cX3_matchAt 5 = .ok (.aload_n 0, 1) := by decide +kernel
theorem dX3_matchAt_6 : decode cX3_matchAt 6 = .ok (.iconst 0, 1) := by decide +kernel
theorem dX3_matchAt_7 : decode cX3_matchAt 7 = .ok (.putfield 37, 3) := by decide +kernel
theorem dX3_matchAt_10 : decode cX3_matchAt 10 = .ok (.aload_n 0, 1) := by decide +kernel
theorem dX3_matchAt_11 : decode cX3_matchAt 11 = .ok (.iload_n 3, 1) := by decide +kernel
theorem dX3_matchAt_12 : decode cX3_matchAt 12 = .ok (.putfield 31, 3) := by decide +kernel
theorem dX3_matchAt_15 : decode cX3_matchAt 15 = .ok (.iconst 0, 1) := by decide +kernel
theorem dX3_matchAt_16 : decode cX3_matchAt 16 = .ok (.istore 4, 2) := by decide +kernel
theorem dX3_matchAt_18 : decode cX3_matchAt 18 = .ok (.iload 4, 2) := by decide +kernel
theorem dX3_matchAt_20 : decode cX3_matchAt 20 = .ok (.ldc 40, 2) := by decide +kernel
theorem dX3_matchAt_22 : decode cX3_matchAt 22 = .ok (.if_icmp .gt 42, 3) := by decide +kernel
theorem dX3_matchAt_25 : decode cX3_matchAt 25 = .ok (.aload_n 0, 1) := by decide +kernel
theorem dX3_matchAt_26 : decode cX3_matchAt 26 = .ok (.aload_n 1, 1) := by decide +kernel
theorem dX3_matchAt_27 : decode cX3_matchAt 27 = .ok (.aload_n 2, 1) := by decide +kernel
theorem dX3_matchAt_28 : decode cX3_matchAt 28 = .ok (.invokevirtual 41, 3) := by decide +kernel
theorem dX3_matchAt_31 : decode cX3_matchAt 31 = .ok (.istore 5, 2) := by decide +kernel
theorem dX3_matchAt_33 : decode cX3_matchAt 33 = .ok (.iload 5, 2) := by decide +kernel
theorem dX3_matchAt_35 : decode cX3_matchAt 35 = .ok (.ifCond .eq 6, 3) := by decide +kernel
theorem dX3_matchAt_38 : decode cX3_matchAt 38 = .ok (.iload 5, 2) := by decide +kernel
theorem dX3_matchAt_40 : decode cX3_matchAt 40 = .ok (.ireturn, 1) := by decide +kernel
theorem dX3_matchAt_41 : decode cX3_matchAt 41 = .ok (.aload_n 0, 1) := by decide +kernel
theorem dX3_matchAt_42 : decode cX3_matchAt 42 = .ok (.aload_n 1, 1) := by decide +kernel
theorem dX3_matchAt_43 : decode cX3_matchAt 43 = .ok (.aload_n 2, 1) := by decide +kernel
theorem dX3_matchAt_44 : decode cX3_matchAt 44 = .ok (.invokevirtual 45, 3) := by decide +kernel
theorem dX3_matchAt_47 : decode cX3_matchAt 47 = .ok (.istore 5, 2) := by decide +kernel
theorem dX3_matchAt_49 : decode cX3_matchAt 49 = .ok (.iload 5, 2) := by decide +kernel
theorem dX3_matchAt_51 : decode cX3_matchAt 51 = .ok (.iconst 1, 1) := by decide +kernel
theorem dX3_matchAt_52 : decode cX3_matchAt 52 = .ok (.if_icmp .eq 6, 3) := by decide +kernel
theorem dX3_matchAt_55 : decode cX3_matchAt 55 = .ok (.iload 5, 2) := by decide +kernel
theorem dX3_matchAt_57 : decode cX3_matchAt 57 = .ok (.ireturn, 1) := by decide +kernel
theorem dX3_matchAt_58 : decode cX3_matchAt 58 = .ok (.iinc 4 1, 3) := by decide +kernel
theorem dX3_matchAt_61 : decode cX3_matchAt 61 = .ok (.goto (-43), 3) := by decide +kernel
theorem dX3_matchAt_64 : decode cX3_matchAt 64 = .ok (.bipush (-4), 2) := by decide +kernel
theorem dX3_matchAt_66 : decode cX3_matchAt 66 = .ok (.ireturn, 1) := by decide +kernel
theorem dX3_init_0 : decode cX3_init 0 = .ok (.aload_n 0, 1) := by decide +kernel
theorem dX3_init_1 : decode cX3_init 1 = .ok (.invokespecial 3, 3) := by decide +kernel
theorem dX3_init_4 : decode cX3_init 4 = .ok (.aload_n 0, 1) := by decide +kernel
theorem dX3_init_5 : decode cX3_init 5 = .ok (.sipush 513, 3) := by decide +kernel
theorem dX3_init_8 : decode cX3_init 8 = .ok (.newarray .int, 2) := by decide +kernel
theorem dX3_init_10 : decode cX3_init 10 = .ok (.putfield 9, 3) := by decide +kernel
theorem dX3_init_13 : decode cX3_init 13 = .ok (.aload_n 0, 1) := by decide +kernel
theorem dX3_init_14 : decode cX3_init 14 = .ok (.sipush 513, 3) := by decide +kernel
theorem dX3_init_17 : decode cX3_init 17 = .ok (.newarray .int, 2) := by decide +kernel
theorem dX3_init_19 : decode cX3_init 19 = .ok (.putfield 15, 3) := by decide +kernel
theorem dX3_init_22 : decode cX3_init 22 = .ok (.aload_n 0, 1) := by decide +kernel
theorem dX3_init_23 : decode cX3_init 23 = .ok (.sipush 513, 3) := by decide +kernel
theorem dX3_init_26 : decode cX3_init 26 = .ok (.newarray .int, 2) := by decide +kernel
theorem dX3_init_28 : decode cX3_init 28 = .ok (.putfield 18, 3) := by decide +kernel
theorem dX3_init_31 : decode cX3_init 31 = .ok (.aload_n 0, 1) := by decide +kernel
theorem dX3_init_32 : decode cX3_init 32 = .ok (.bipush 32, 2) := by decide +kernel
theorem dX3_init_34 : decode cX3_init 34 = .ok (.newarray .int, 2) := by decide +kernel
theorem dX3_init_36 : decode cX3_init 36 = .ok (.putfield 21, 3) := by decide +kernel
theorem dX3_init_39 : decode cX3_init 39 = .ok (.aload_n 0, 1) := by decide +kernel
theorem dX3_init_40 : decode cX3_init 40 = .ok (.bipush 32, 2) := by decide +kernel
theorem dX3_init_42 : decode cX3_init 42 = .ok (.newarray .int, 2) := by decide +kernel
theorem dX3_init_44 : decode cX3_init 44 = .ok (.putfield 24, 3) := by decide +kernel
theorem dX3_init_47 : decode cX3_init 47 = .ok (.return_, 1) := by decide +kernel
