theorem dX3_isClass_0 : decode cX3_isClass 0 = .ok (.lload_n 0, 1) := by decide +kernel
theorem dX3_isClass_1 : decode cX3_isClass 1 = .ok (.lconst 1, 1) := by decide +kernel
theorem dX3_isClass_2 : decode cX3_isClass 2 = .ok (.lcmp, 1) := by decide +kernel
theorem dX3_isClass_3 : decode cX3_isClass 3 = .ok (.ifCond .lt 15, 3) := by decide +kernel
theorem dX3_isClass_6 : decode cX3_isClass 6 = .ok (.lload_n 0, 1) := by decide +kernel
theorem dX3_isClass_7 : decode cX3_isClass 7 = .ok (.ldc2_w 9, 3) := by decide +kernel
theorem dX3_isClass_10 : decode cX3_isClass 10 = .ok (.lcmp, 1) := by decide +kernel
theorem dX3_isClass_11 : decode cX3_isClass 11 = .ok (.ifCond .gt 7, 3) := by decide +kernel
theorem dX3_isClass_14 : decode cX3_isClass 14 = .ok (.iconst 1, 1) := by decide +kernel
theorem dX3_isClass_15 : decode cX3_isClass 15 = .ok (.goto 4, 3) := by decide +kernel
theorem dX3_isClass_18 : decode cX3_isClass 18 = .ok (.iconst 0, 1) := by decide +kernel
theorem dX3_isClass_19 : decode cX3_isClass 19 = .ok (.ireturn, 1) := by decide +kernel
theorem dX3_isClassOrFace_0 : decode cX3_isClassOrFace 0 = .ok (.lload_n 0, 1) := by decide +kernel
theorem dX3_isClassOrFace_1 : decode cX3_isClassOrFace 1 = .ok (.lconst 0, 1) := by decide +kernel
theorem dX3_isClassOrFace_2 : decode cX3_isClassOrFace 2 = .ok (.lcmp, 1) := by decide +kernel
theorem dX3_isClassOrFace_3 : decode cX3_isClassOrFace 3 = .ok (.ifCond .lt 15, 3) := by decide +kernel
theorem dX3_isClassOrFace_6 : decode cX3_isClassOrFace 6 = .ok (.lload_n 0, 1) := by decide +kernel
theorem dX3_isClassOrFace_7 : decode cX3_isClassOrFace 7 = .ok (.ldc2_w 11, 3) := by decide +kernel
theorem dX3_isClassOrFace_10 : decode cX3_isClassOrFace 10 = .ok (.lcmp, 1) := by decide +kernel
theorem dX3_isClassOrFace_11 : decode cX3_isClassOrFace 11 = .ok (.ifCond .gt 7, 3) := by decide +kernel
theorem dX3_isClassOrFace_14 : decode cX3_isClassOrFace 14 = .ok (.iconst 1, 1) := by decide +kernel
theorem dX3_isClassOrFace_15 : decode cX3_isClassOrFace 15 = .ok (.goto 4, 3) := by decide +kernel
theorem dX3_isClassOrFace_18 : decode cX3_isClassOrFace 18 = .ok (.iconst 0, 1) := by decide +kernel
theorem dX3_isClassOrFace_19 : decode cX3_isClassOrFace 19 = .ok (.ireturn, 1) := by decide +kernel
theorem dX3_isObject_0 : decode cX3_isObject 0 = .ok (.iload_n 0, 1) := by decide +kernel
theorem dX3_isObject_1 : decode cX3_isObject 1 = .ok (.bipush 10, 2) := by decide +kernel
theorem dX3_isObject_3 : decode cX3_isObject 3 = .ok (.if_icmp .lt 13, 3) := by decide +kernel
theorem dX3_isObject_6 : decode cX3_isObject 6 = .ok (.iload_n 0, 1) := by decide +kernel
theorem dX3_isObject_7 : decode cX3_isObject 7 = .ok (.bipush 17, 2) := by decide +kernel
theorem dX3_isObject_9 : decode cX3_isObject 9 = .ok (.if_icmp .gt 7, 3) := by decide +kernel
theorem dX3_isObject_12 : decode cX3_isObject 12 = .ok (.iconst 1, 1) := by decide +kernel
theorem dX3_isObject_13 : decode cX3_isObject 13 = .ok (.goto 4, 3) := by decide +kernel
theorem dX3_isObject_16 : decode cX3_isObject 16 = .ok (.iconst 0, 1) := by decide +kernel
theorem dX3_isObject_17 : decode cX3_isObject 17 = .ok (.ireturn, 1) := by decide +kernel
theorem dX3_isRow_0 : decode cX3_isRow 0 = .ok (.iload_n 0, 1) := by decide +kernel
theorem dX3_isRow_1 : decode cX3_isRow 1 = .ok (.bipush 21, 2) := by decide +kernel
theorem dX3_isRow_3 : decode cX3_isRow 3 = .ok (.if_icmp .lt 13, 3) := by decide +kernel
theorem dX3_isRow_6 : decode cX3_isRow 6 = .ok (.iload_n 0, 1) := by decide +kernel
theorem dX3_isRow_7 : decode cX3_isRow 7 = .ok (.bipush 25, 2) := by decide +kernel
theorem dX3_isRow_9 : decode cX3_isRow 9 = .ok (.if_icmp .gt 7, 3) := by decide +kernel
theorem dX3_isRow_12 : decode cX3_isRow 12 = .ok (.iconst 1, 1) := by decide +kernel
theorem dX3_isRow_13 : decode cX3_isRow 13 = .ok (.goto 4, 3) := by decide +kernel
theorem dX3_isRow_16 : decode cX3_isRow 16 = .ok (.iconst 0, 1) := by decide +kernel
theorem dX3_isRow_17 : decode cX3_isRow 17 = .ok (.ireturn, 1) := by decide +kernel
theorem dX3_isUnmade_0 : decode cX3_isUnmade 0 = .ok (.iload_n 0, 1) := by decide +kernel
theorem dX3_isUnmade_1 : decode cX3_isUnmade 1 = .ok (.bipush 100, 2) := by decide +kernel
theorem dX3_isUnmade_3 : decode cX3_isUnmade 3 = .ok (.if_icmp .lt 14, 3) := by decide +kernel
theorem dX3_isUnmade_6 : decode cX3_isUnmade 6 = .ok (.iload_n 0, 1) := by decide +kernel
theorem dX3_isUnmade_7 : decode cX3_isUnmade 7 = .ok (.sipush 140, 3) := by decide +kernel
theorem dX3_isUnmade_10 : decode cX3_isUnmade 10 = .ok (.if_icmp .ge 7, 3) := by decide +kernel
theorem dX3_isUnmade_13 : decode cX3_isUnmade 13 = .ok (.iconst 1, 1) := by decide +kernel
theorem dX3_isUnmade_14 : decode cX3_isUnmade 14 = .ok (.goto 4, 3) := by decide +kernel
theorem dX3_isUnmade_17 : decode cX3_isUnmade 17 = .ok (.iconst 0, 1) := by decide +kernel
theorem dX3_isUnmade_18 : decode cX3_isUnmade 18 = .ok (.ireturn, 1) := by decide +kernel
theorem dX3_isKind_0 : decode cX3_isKind 0 = .ok (.iload_n 0, 1) := by decide +kernel
theorem dX3_isKind_1 : decode cX3_isKind 1 = .ok (.ifCond .lt 8, 3) := by decide +kernel
theorem dX3_isKind_4 : decode cX3_isKind 4 = .ok (.iload_n 0, 1) := by decide +kernel
theorem dX3_isKind_5 : decode cX3_isKind 5 = .ok (.iconst 5, 1) := by decide +kernel
theorem dX3_isKind_6 : decode cX3_isKind 6 = .ok (.if_icmp .le 24, 3) := by decide +kernel
theorem dX3_isKind_9 : decode cX3_isKind 9 = .ok (.iload_n 0, 1) := by decide +kernel
theorem dX3_isKind_10 : decode cX3_isKind 10 = .ok (.invokestatic 15, 3) := by decide +kernel
theorem dX3_isKind_13 : decode cX3_isKind 13 = .ok (.ifCond .ne 17, 3) := by decide +kernel
theorem dX3_isKind_16 : decode cX3_isKind 16 = .ok (.iload_n 0, 1) := by decide +kernel
theorem dX3_isKind_17 : decode cX3_isKind 17 = .ok (.invokestatic 19, 3) := by decide +kernel
theorem dX3_isKind_20 : decode cX3_isKind 20 = .ok (.ifCond .ne 10, 3) := by decide +kernel
theorem dX3_isKind_23 : decode cX3_isKind 23 = .ok (.iload_n 0, 1) := by decide +kernel
theorem dX3_isKind_24 : decode cX3_isKind 24 = .ok (.invokestatic 22, 3) := by decide +kernel
theorem dX3_isKind_27 : decode cX3_isKind 27 = .ok (.ifCond .eq 7, 3) := by decide +kernel
theorem dX3_isKind_30 : decode cX3_isKind 30 = .ok (.iconst 1, 1) := by decide +kernel
theorem dX3_isKind_31 : decode cX3_isKind 31 = .ok (.goto 4, 3) := by decide +kernel
theorem dX3_isKind_34 : decode cX3_isKind 34 = .ok (.iconst 0, 1) := by decide +kernel
theorem dX3_isKind_35 : decode cX3_isKind 35 = .ok (.ireturn, 1) := by decide +kernel
theorem dX3_isReference_0 : decode cX3_isReference 0 = .ok (.iload_n 0, 1) := by decide +kernel
theorem dX3_isReference_1 : decode cX3_isReference 1 = .ok (.iconst 5, 1) := by decide +kernel
theorem dX3_isReference_2 : decode cX3_isReference 2 = .ok (.if_icmp .lt 13, 3) := by decide +kernel
theorem dX3_isReference_5 : decode cX3_isReference 5 = .ok (.iload_n 0, 1) := by decide +kernel
theorem dX3_isReference_6 : decode cX3_isReference 6 = .ok (.bipush 100, 2) := by decide +kernel
theorem dX3_isReference_8 : decode cX3_isReference 8 = .ok (.if_icmp .ge 7, 3) := by decide +kernel
theorem dX3_isReference_11 : decode cX3_isReference 11 = .ok (.iconst 1, 1) := by decide +kernel
theorem dX3_isReference_12 : decode cX3_isReference 12 = .ok (.goto 4, 3) := by decide +kernel
theorem dX3_isReference_15 : decode cX3_isReference 15 = .ok (.iconst 0, 1) := by decide +kernel
theorem dX3_isReference_16 : decode cX3_isReference 16 = .ok (.ireturn, 1) := by decide +kernel
theorem dX3_isOnePlace_0 : decode cX3_isOnePlace 0 = .ok (.iload_n 0, 1) := by decide +kernel
theorem dX3_isOnePlace_1 : decode cX3_isOnePlace 1 = .ok (.iconst 1, 1) := by decide +kernel
theorem dX3_isOnePlace_2 : decode cX3_isOnePlace 2 = .ok (.if_icmp .eq 8, 3) := by decide +kernel
theorem dX3_isOnePlace_5 : decode cX3_isOnePlace 5 = .ok (.iload_n 0, 1) := by decide +kernel
theorem dX3_isOnePlace_6 : decode cX3_isOnePlace 6 = .ok (.iconst 4, 1) := by decide +kernel
theorem dX3_isOnePlace_7 : decode cX3_isOnePlace 7 = .ok (.if_icmp .lt 7, 3) := by decide +kernel
theorem dX3_isOnePlace_10 : decode cX3_isOnePlace 10 = .ok (.iconst 1, 1) := by decide +kernel
theorem dX3_isOnePlace_11 : decode cX3_isOnePlace 11 = .ok (.goto 4, 3) := by decide +kernel
theorem dX3_isOnePlace_14 : decode cX3_isOnePlace 14 = .ok (.iconst 0, 1) := by decide +kernel
theorem dX3_isOnePlace_15 : decode cX3_isOnePlace 15 = .ok (.ireturn, 1) := by decide +kernel
theorem dX3_isUnder_0 : decode cX3_isUnder 0 = .ok (.iload_n 0, 1) := by decide +kernel
theorem dX3_isUnder_1 : decode cX3_isUnder 1 = .ok (.ifCond .lt 19, 3) := by decide +kernel
theorem dX3_isUnder_4 : decode cX3_isUnder 4 = .ok (.iload_n 0, 1) := by decide +kernel
theorem dX3_isUnder_5 : decode cX3_isUnder 5 = .ok (.bipush 7, 2) := by decide +kernel
theorem dX3_isUnder_7 : decode cX3_isUnder 7 = .ok (.if_icmp .gt 13, 3) := by decide +kernel
theorem dX3_isUnder_10 : decode cX3_isUnder 10 = .ok (.iload_n 1, 1) := by decide +kernel
theorem dX3_isUnder_11 : decode cX3_isUnder 11 = .ok (.ifCond .lt 9, 3) := by decide +kernel
theorem dX3_isUnder_14 : decode cX3_isUnder 14 = .ok (.iload_n 1, 1) := by decide +kernel
theorem dX3_isUnder_15 : decode cX3_isUnder 15 = .ok (.bipush 7, 2) := by decide +kernel
theorem dX3_isUnder_17 : decode cX3_isUnder 17 = .ok (.if_icmp .le 5, 3) := by decide +kernel
theorem dX3_isUnder_20 : decode cX3_isUnder 20 = .ok (.iconst 0, 1) := by decide +kernel
theorem dX3_isUnder_21 : decode cX3_isUnder 21 = .ok (.ireturn, 1) := by decide +kernel
theorem dX3_isUnder_22 : decode cX3_isUnder 22 = .ok (.getstatic 25, 3) := by decide +kernel
theorem dX3_isUnder_25 : decode cX3_isUnder 25 = .ok (.iload_n 0, 1) := by decide +kernel
theorem dX3_isUnder_26 : decode cX3_isUnder 26 = .ok (.iaload, 1) := by decide +kernel
theorem dX3_isUnder_27 : decode cX3_isUnder 27 = .ok (.iload_n 1, 1) := by decide +kernel
theorem dX3_isUnder_28 : decode cX3_isUnder 28 = .ok (.ishr, 1) := by decide +kernel
theorem dX3_isUnder_29 : decode cX3_isUnder 29 = .ok (.iconst 1, 1) := by decide +kernel
theorem dX3_isUnder_30 : decode cX3_isUnder 30 = .ok (.iand, 1) := by decide +kernel
theorem dX3_isUnder_31 : decode cX3_isUnder 31 = .ok (.iconst 1, 1) := by decide +kernel
theorem dX3_isUnder_32 : decode cX3_isUnder 32 = .ok (.if_icmp .ne 7, 3) := by decide +kernel
theorem dX3_isUnder_35 : decode cX3_isUnder 35 = .ok (.iconst 1, 1) := by decide +kernel
theorem dX3_isUnder_36 : decode cX3_isUnder 36 = .ok (.goto 4, 3) := by decide +kernel
theorem dX3_isUnder_39 : decode cX3_isUnder 39 = .ok (.iconst 0, 1) := by decide +kernel
theorem dX3_isUnder_40 : decode cX3_isUnder 40 = .ok (.ireturn, 1) := by decide +kernel
theorem dX3_goesTo_0 : decode cX3_goesTo 0 = .ok (.iload_n 0, 1) := by decide +kernel
theorem dX3_goesTo_1 : decode cX3_goesTo 1 = .ok (.iload_n 1, 1) := by decide +kernel
theorem dX3_goesTo_2 : decode cX3_goesTo 2 = .ok (.if_icmp .eq 7, 3) := by decide +kernel
theorem dX3_goesTo_5 : decode cX3_goesTo 5 = .ok (.iload_n 1, 1) := by decide +kernel
theorem dX3_goesTo_6 : decode cX3_goesTo 6 = .ok (.ifCond .ne 5, 3) := by decide +kernel
theorem dX3_goesTo_9 : decode cX3_goesTo 9 = .ok (.iconst 1, 1) := by decide +kernel
theorem dX3_goesTo_10 : decode cX3_goesTo 10 = .ok (.ireturn, 1) := by decide +kernel
theorem dX3_goesTo_11 : decode cX3_goesTo 11 = .ok (.iload_n 0, 1) := by decide +kernel
theorem dX3_goesTo_12 : decode cX3_goesTo 12 = .ok (.iconst 4, 1) := by decide +kernel
theorem dX3_goesTo_13 : decode cX3_goesTo 13 = .ok (.if_icmp .ne 8, 3) := by decide +kernel
theorem dX3_goesTo_16 : decode cX3_goesTo 16 = .ok (.iload_n 1, 1) := by decide +kernel
theorem dX3_goesTo_17 : decode cX3_goesTo 17 = .ok (.invokestatic 29, 3) := by decide +kernel
theorem dX3_goesTo_20 : decode cX3_goesTo 20 = .ok (.ireturn, 1) := by decide +kernel
theorem dX3_goesTo_21 : decode cX3_goesTo 21 = .ok (.iload_n 1, 1) := by decide +kernel
theorem dX3_goesTo_22 : decode cX3_goesTo 22 = .ok (.invokestatic 15, 3) := by decide +kernel
theorem dX3_goesTo_25 : decode cX3_goesTo 25 = .ok (.ifCond .eq 47, 3) := by decide +kernel
theorem dX3_goesTo_28 : decode cX3_goesTo 28 = .ok (.iload_n 1, 1) := by decide +kernel
theorem dX3_goesTo_29 : decode cX3_goesTo 29 = .ok (.bipush 10, 2) := by decide +kernel
theorem dX3_goesTo_31 : decode cX3_goesTo 31 = .ok (.if_icmp .eq 9, 3) := by decide +kernel
theorem dX3_goesTo_34 : decode cX3_goesTo 34 = .ok (.iload_n 1, 1) := by decide +kernel
theorem dX3_goesTo_35 : decode cX3_goesTo 35 = .ok (.bipush 15, 2) := by decide +kernel
theorem dX3_goesTo_37 : decode cX3_goesTo 37 = .ok (.if_icmp .le 8, 3) := by decide +kernel
theorem dX3_goesTo_40 : decode cX3_goesTo 40 = .ok (.iload_n 0, 1) := by decide +kernel
theorem dX3_goesTo_41 : decode cX3_goesTo 41 = .ok (.invokestatic 29, 3) := by decide +kernel
theorem dX3_goesTo_44 : decode cX3_goesTo 44 = .ok (.ireturn, 1) := by decide +kernel
theorem dX3_goesTo_45 : decode cX3_goesTo 45 = .ok (.iload_n 0, 1) := by decide +kernel
theorem dX3_goesTo_46 : decode cX3_goesTo 46 = .ok (.invokestatic 15, 3) := by decide +kernel
theorem dX3_goesTo_49 : decode cX3_goesTo 49 = .ok (.ifCond .eq 21, 3) := by decide +kernel
theorem dX3_goesTo_52 : decode cX3_goesTo 52 = .ok (.iload_n 0, 1) := by decide +kernel
theorem dX3_goesTo_53 : decode cX3_goesTo 53 = .ok (.bipush 10, 2) := by decide +kernel
theorem dX3_goesTo_55 : decode cX3_goesTo 55 = .ok (.isub, 1) := by decide +kernel
theorem dX3_goesTo_56 : decode cX3_goesTo 56 = .ok (.iload_n 1, 1) := by decide +kernel
theorem dX3_goesTo_57 : decode cX3_goesTo 57 = .ok (.bipush 10, 2) := by decide +kernel
theorem dX3_goesTo_59 : decode cX3_goesTo 59 = .ok (.isub, 1) := by decide +kernel
theorem dX3_goesTo_60 : decode cX3_goesTo 60 = .ok (.invokestatic 32, 3) := by decide +kernel
theorem dX3_goesTo_63 : decode cX3_goesTo 63 = .ok (.ifCond .eq 7, 3) := by decide +kernel
theorem dX3_goesTo_66 : decode cX3_goesTo 66 = .ok (.iconst 1, 1) := by decide +kernel
theorem dX3_goesTo_67 : decode cX3_goesTo 67 = .ok (.goto 4, 3) := by decide +kernel
theorem dX3_goesTo_70 : decode cX3_goesTo 70 = .ok (.iconst 0, 1) := by decide +kernel
theorem dX3_goesTo_71 : decode cX3_goesTo 71 = .ok (.ireturn, 1) := by decide +kernel
theorem dX3_goesTo_72 : decode cX3_goesTo 72 = .ok (.iload_n 0, 1) := by decide +kernel
theorem dX3_goesTo_73 : decode cX3_goesTo 73 = .ok (.invokestatic 19, 3) := by decide +kernel
theorem dX3_goesTo_76 : decode cX3_goesTo 76 = .ok (.ifCond .eq 28, 3) := by decide +kernel
theorem dX3_goesTo_79 : decode cX3_goesTo 79 = .ok (.iload_n 1, 1) := by decide +kernel
theorem dX3_goesTo_80 : decode cX3_goesTo 80 = .ok (.invokestatic 19, 3) := by decide +kernel
theorem dX3_goesTo_83 : decode cX3_goesTo 83 = .ok (.ifCond .eq 21, 3) := by decide +kernel
theorem dX3_goesTo_86 : decode cX3_goesTo 86 = .ok (.iload_n 0, 1) := by decide +kernel
theorem dX3_goesTo_87 : decode cX3_goesTo 87 = .ok (.bipush 20, 2) := by decide +kernel
theorem dX3_goesTo_89 : decode cX3_goesTo 89 = .ok (.isub, 1) := by decide +kernel
theorem dX3_goesTo_90 : decode cX3_goesTo 90 = .ok (.iload_n 1, 1) := by decide +kernel
theorem dX3_goesTo_91 : decode cX3_goesTo 91 = .ok (.bipush 20, 2) := by decide +kernel
theorem dX3_goesTo_93 : decode cX3_goesTo 93 = .ok (.isub, 1) := by decide +kernel
theorem dX3_goesTo_94 : decode cX3_goesTo 94 = .ok (.invokestatic 32, 3) := by decide +kernel
theorem dX3_goesTo_97 : decode cX3_goesTo 97 = .ok (.ifCond .eq 7, 3) := by decide +kernel
theorem dX3_goesTo_100 : decode cX3_goesTo 100 = .ok (.iconst 1, 1) := by decide +kernel
theorem dX3_goesTo_101 : decode cX3_goesTo 101 = .ok (.goto 4, 3) := by decide +kernel
theorem dX3_goesTo_104 : decode cX3_goesTo 104 = .ok (.iconst 0, 1) := by decide +kernel
theorem dX3_goesTo_105 : decode cX3_goesTo 105 = .ok (.ireturn, 1) := by decide +kernel
theorem dX3_joinOf_0 : decode cX3_joinOf 0 = .ok (.iload_n 0, 1) := by decide +kernel
theorem dX3_joinOf_1 : decode cX3_joinOf 1 = .ok (.iload_n 1, 1) := by decide +kernel
theorem dX3_joinOf_2 : decode cX3_joinOf 2 = .ok (.if_icmp .ne 5, 3) := by decide +kernel
theorem dX3_joinOf_5 : decode cX3_joinOf 5 = .ok (.iload_n 0, 1) := by decide +kernel
theorem dX3_joinOf_6 : decode cX3_joinOf 6 = .ok (.ireturn, 1) := by decide +kernel
theorem dX3_joinOf_7 : decode cX3_joinOf 7 = .ok (.iload_n 0, 1) := by decide +kernel
theorem dX3_joinOf_8 : decode cX3_joinOf 8 = .ok (.iconst 4, 1) := by decide +kernel
theorem dX3_joinOf_9 : decode cX3_joinOf 9 = .ok (.if_icmp .ne 12, 3) := by decide +kernel
theorem dX3_joinOf_12 : decode cX3_joinOf 12 = .ok (.iload_n 1, 1) := by decide +kernel
theorem dX3_joinOf_13 : decode cX3_joinOf 13 = .ok (.invokestatic 29, 3) := by decide +kernel
theorem dX3_joinOf_16 : decode cX3_joinOf 16 = .ok (.ifCond .eq 5, 3) := by decide +kernel
theorem dX3_joinOf_19 : decode cX3_joinOf 19 = .ok (.iload_n 1, 1) := by decide +kernel
theorem dX3_joinOf_20 : decode cX3_joinOf 20 = .ok (.ireturn, 1) := by decide +kernel
theorem dX3_joinOf_21 : decode cX3_joinOf 21 = .ok (.iload_n 1, 1) := by decide +kernel
theorem dX3_joinOf_22 : decode cX3_joinOf 22 = .ok (.iconst 4, 1) := by decide +kernel
theorem dX3_joinOf_23 : decode cX3_joinOf 23 = .ok (.if_icmp .ne 12, 3) := by decide +kernel
theorem dX3_joinOf_26 : decode cX3_joinOf 26 = .ok (.iload_n 0, 1) := by decide +kernel
theorem dX3_joinOf_27 : decode cX3_joinOf 27 = .ok (.invokestatic 29, 3) := by decide +kernel
theorem dX3_joinOf_30 : decode cX3_joinOf 30 = .ok (.ifCond .eq 5, 3) := by decide +kernel
theorem dX3_joinOf_33 : decode cX3_joinOf 33 = .ok (.iload_n 0, 1) := by decide +kernel
theorem dX3_joinOf_34 : decode cX3_joinOf 34 = .ok (.ireturn, 1) := by decide +kernel
theorem dX3_joinOf_35 : decode cX3_joinOf 35 = .ok (.iload_n 0, 1) := by decide +kernel
theorem dX3_joinOf_36 : decode cX3_joinOf 36 = .ok (.invokestatic 15, 3) := by decide +kernel
theorem dX3_joinOf_39 : decode cX3_joinOf 39 = .ok (.ifCond .eq 25, 3) := by decide +kernel
theorem dX3_joinOf_42 : decode cX3_joinOf 42 = .ok (.iload_n 1, 1) := by decide +kernel
theorem dX3_joinOf_43 : decode cX3_joinOf 43 = .ok (.invokestatic 15, 3) := by decide +kernel
theorem dX3_joinOf_46 : decode cX3_joinOf 46 = .ok (.ifCond .eq 18, 3) := by decide +kernel
theorem dX3_joinOf_49 : decode cX3_joinOf 49 = .ok (.bipush 10, 2) := by decide +kernel
theorem dX3_joinOf_51 : decode cX3_joinOf 51 = .ok (.iload_n 0, 1) := by decide +kernel
theorem dX3_joinOf_52 : decode cX3_joinOf 52 = .ok (.bipush 10, 2) := by decide +kernel
theorem dX3_joinOf_54 : decode cX3_joinOf 54 = .ok (.isub, 1) := by decide +kernel
theorem dX3_joinOf_55 : decode cX3_joinOf 55 = .ok (.iload_n 1, 1) := by decide +kernel
theorem dX3_joinOf_56 : decode cX3_joinOf 56 = .ok (.bipush 10, 2) := by decide +kernel
theorem dX3_joinOf_58 : decode cX3_joinOf 58 = .ok (.isub, 1) := by decide +kernel
theorem dX3_joinOf_59 : decode cX3_joinOf 59 = .ok (.invokestatic 36, 3) := by decide +kernel
theorem dX3_joinOf_62 : decode cX3_joinOf 62 = .ok (.iadd, 1) := by decide +kernel
theorem dX3_joinOf_63 : decode cX3_joinOf 63 = .ok (.ireturn, 1) := by decide +kernel
theorem dX3_joinOf_64 : decode cX3_joinOf 64 = .ok (.iload_n 0, 1) := by decide +kernel
theorem dX3_joinOf_65 : decode cX3_joinOf 65 = .ok (.invokestatic 19, 3) := by decide +kernel
theorem dX3_joinOf_68 : decode cX3_joinOf 68 = .ok (.ifCond .eq 25, 3) := by decide +kernel
theorem dX3_joinOf_71 : decode cX3_joinOf 71 = .ok (.iload_n 1, 1) := by decide +kernel
theorem dX3_joinOf_72 : decode cX3_joinOf 72 = .ok (.invokestatic 19, 3) := by decide +kernel
theorem dX3_joinOf_75 : decode cX3_joinOf 75 = .ok (.ifCond .eq 18, 3) := by decide +kernel
theorem dX3_joinOf_78 : decode cX3_joinOf 78 = .ok (.bipush 20, 2) := by decide +kernel
theorem dX3_joinOf_80 : decode cX3_joinOf 80 = .ok (.iload_n 0, 1) := by decide +kernel
theorem dX3_joinOf_81 : decode cX3_joinOf 81 = .ok (.bipush 20, 2) := by decide +kernel
theorem dX3_joinOf_83 : decode cX3_joinOf 83 = .ok (.isub, 1) := by decide +kernel
theorem dX3_joinOf_84 : decode cX3_joinOf 84 = .ok (.iload_n 1, 1) := by decide +kernel
theorem dX3_joinOf_85 : decode cX3_joinOf 85 = .ok (.bipush 20, 2) := by decide +kernel
theorem dX3_joinOf_87 : decode cX3_joinOf 87 = .ok (.isub, 1) := by decide +kernel
theorem dX3_joinOf_88 : decode cX3_joinOf 88 = .ok (.invokestatic 36, 3) := by decide +kernel
theorem dX3_joinOf_91 : decode cX3_joinOf 91 = .ok (.iadd, 1) := by decide +kernel
theorem dX3_joinOf_92 : decode cX3_joinOf 92 = .ok (.ireturn, 1) := by decide +kernel
theorem dX3_joinOf_93 : decode cX3_joinOf 93 = .ok (.iload_n 0, 1) := by decide +kernel
theorem dX3_joinOf_94 : decode cX3_joinOf 94 = .ok (.invokestatic 29, 3) := by decide +kernel
theorem dX3_joinOf_97 : decode cX3_joinOf 97 = .ok (.ifCond .eq 15, 3) := by decide +kernel
theorem dX3_joinOf_100 : decode cX3_joinOf 100 = .ok (.iload_n 1, 1) := by decide +kernel
theorem dX3_joinOf_101 : decode cX3_joinOf 101 = .ok (.invokestatic 29, 3) := by decide +kernel
theorem dX3_joinOf_104 : decode cX3_joinOf 104 = .ok (.ifCond .eq 8, 3) := by decide +kernel
theorem dX3_joinOf_107 : decode cX3_joinOf 107 = .ok (.bipush 10, 2) := by decide +kernel
theorem dX3_joinOf_109 : decode cX3_joinOf 109 = .ok (.goto 4, 3) := by decide +kernel
theorem dX3_joinOf_112 : decode cX3_joinOf 112 = .ok (.iconst 0, 1) := by decide +kernel
theorem dX3_joinOf_113 : decode cX3_joinOf 113 = .ok (.ireturn, 1) := by decide +kernel
theorem dX3_sharedClass_0 : decode cX3_sharedClass 0 = .ok (.iload_n 0, 1) := by decide +kernel
theorem dX3_sharedClass_1 : decode cX3_sharedClass 1 = .ok (.istore_n 2, 1) := by decide +kernel
theorem dX3_sharedClass_2 : decode cX3_sharedClass 2 = .ok (.iconst 0, 1) := by decide +kernel
theorem dX3_sharedClass_3 : decode cX3_sharedClass 3 = .ok (.istore_n 3, 1) := by decide +kernel
theorem dX3_sharedClass_4 : decode cX3_sharedClass 4 = .ok (.iload_n 3, 1) := by decide +kernel
theorem dX3_sharedClass_5 : decode cX3_sharedClass 5 = .ok (.iconst 5, 1) := by decide +kernel
theorem dX3_sharedClass_6 : decode cX3_sharedClass 6 = .ok (.if_icmp .ge 40, 3) := by decide +kernel
theorem dX3_sharedClass_9 : decode cX3_sharedClass 9 = .ok (.iload_n 2, 1) := by decide +kernel
theorem dX3_sharedClass_10 : decode cX3_sharedClass 10 = .ok (.ifCond .le 36, 3) := by decide +kernel
theorem dX3_sharedClass_13 : decode cX3_sharedClass 13 = .ok (.iload_n 2, 1) := by decide +kernel
theorem dX3_sharedClass_14 : decode cX3_sharedClass 14 = .ok (.bipush 7, 2) := by decide +kernel
theorem dX3_sharedClass_16 : decode cX3_sharedClass 16 = .ok (.if_icmp .gt 30, 3) := by decide +kernel
theorem dX3_sharedClass_19 : decode cX3_sharedClass 19 = .ok (.iload_n 2, 1) := by decide +kernel
theorem dX3_sharedClass_20 : decode cX3_sharedClass 20 = .ok (.iconst 5, 1) := by decide +kernel
theorem dX3_sharedClass_21 : decode cX3_sharedClass 21 = .ok (.if_icmp .gt 13, 3) := by decide +kernel
theorem dX3_sharedClass_24 : decode cX3_sharedClass 24 = .ok (.iload_n 1, 1) := by decide +kernel
theorem dX3_sharedClass_25 : decode cX3_sharedClass 25 = .ok (.iload_n 2, 1) := by decide +kernel
theorem dX3_sharedClass_26 : decode cX3_sharedClass 26 = .ok (.invokestatic 32, 3) := by decide +kernel
theorem dX3_sharedClass_29 : decode cX3_sharedClass 29 = .ok (.ifCond .eq 5, 3) := by decide +kernel
theorem dX3_sharedClass_32 : decode cX3_sharedClass 32 = .ok (.iload_n 2, 1) := by decide +kernel
theorem dX3_sharedClass_33 : decode cX3_sharedClass 33 = .ok (.ireturn, 1) := by decide +kernel
theorem dX3_sharedClass_34 : decode cX3_sharedClass 34 = .ok (.getstatic 40, 3) := by decide +kernel
theorem dX3_sharedClass_37 : decode cX3_sharedClass 37 = .ok (.iload_n 2, 1) := by decide +kernel
theorem dX3_sharedClass_38 : decode cX3_sharedClass 38 = .ok (.iaload, 1) := by decide +kernel
theorem dX3_sharedClass_39 : decode cX3_sharedClass 39 = .ok (.istore_n 2, 1) := by decide +kernel
theorem dX3_sharedClass_40 : decode cX3_sharedClass 40 = .ok (.iinc 3 1, 3) := by decide +kernel
theorem dX3_sharedClass_43 : decode cX3_sharedClass 43 = .ok (.goto (-39), 3) := by decide +kernel
theorem dX3_sharedClass_46 : decode cX3_sharedClass 46 = .ok (.iconst 0, 1) := by decide +kernel
theorem dX3_sharedClass_47 : decode cX3_sharedClass 47 = .ok (.ireturn, 1) := by decide +kernel
