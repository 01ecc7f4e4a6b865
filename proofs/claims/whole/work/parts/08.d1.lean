theorem dX10_isIn_0 : decode cX10_isIn 0 = .ok (.lload_n 0, 1) := by decide +kernel
theorem dX10_isIn_1 : decode cX10_isIn 1 = .ok (.lload_n 2, 1) := by decide +kernel
theorem dX10_isIn_2 : decode cX10_isIn 2 = .ok (.lcmp, 1) := by decide +kernel
theorem dX10_isIn_3 : decode cX10_isIn 3 = .ok (.ifCond .lt 14, 3) := by decide +kernel
theorem dX10_isIn_6 : decode cX10_isIn 6 = .ok (.lload_n 0, 1) := by decide +kernel
theorem dX10_isIn_7 : decode cX10_isIn 7 = .ok (.lload 4, 2) := by decide +kernel
theorem dX10_isIn_9 : decode cX10_isIn 9 = .ok (.lcmp, 1) := by decide +kernel
theorem dX10_isIn_10 : decode cX10_isIn 10 = .ok (.ifCond .gt 7, 3) := by decide +kernel
theorem dX10_isIn_13 : decode cX10_isIn 13 = .ok (.iconst 1, 1) := by decide +kernel
theorem dX10_isIn_14 : decode cX10_isIn 14 = .ok (.goto 4, 3) := by decide +kernel
theorem dX10_isIn_17 : decode cX10_isIn 17 = .ok (.iconst 0, 1) := by decide +kernel
theorem dX10_isIn_18 : decode cX10_isIn 18 = .ok (.ireturn, 1) := by decide +kernel
theorem dX10_above_0 : decode cX10_above 0 = .ok (.iload_n 0, 1) := by decide +kernel
theorem dX10_above_1 : decode cX10_above 1 = .ok (.ifCond .eq 8, 3) := by decide +kernel
theorem dX10_above_4 : decode cX10_above 4 = .ok (.iload_n 0, 1) := by decide +kernel
theorem dX10_above_5 : decode cX10_above 5 = .ok (.iconst 5, 1) := by decide +kernel
theorem dX10_above_6 : decode cX10_above 6 = .ok (.if_icmp .le 7, 3) := by decide +kernel
theorem dX10_above_9 : decode cX10_above 9 = .ok (.iconst (-1), 1) := by decide +kernel
theorem dX10_above_10 : decode cX10_above 10 = .ok (.goto 22, 3) := by decide +kernel
theorem dX10_above_13 : decode cX10_above 13 = .ok (.iload_n 0, 1) := by decide +kernel
theorem dX10_above_14 : decode cX10_above 14 = .ok (.iconst 1, 1) := by decide +kernel
theorem dX10_above_15 : decode cX10_above 15 = .ok (.if_icmp .ne 7, 3) := by decide +kernel
theorem dX10_above_18 : decode cX10_above 18 = .ok (.iconst 0, 1) := by decide +kernel
theorem dX10_above_19 : decode cX10_above 19 = .ok (.goto 13, 3) := by decide +kernel
theorem dX10_above_22 : decode cX10_above 22 = .ok (.iload_n 0, 1) := by decide +kernel
theorem dX10_above_23 : decode cX10_above 23 = .ok (.iconst 4, 1) := by decide +kernel
theorem dX10_above_24 : decode cX10_above 24 = .ok (.if_icmp .ne 7, 3) := by decide +kernel
theorem dX10_above_27 : decode cX10_above 27 = .ok (.iconst 2, 1) := by decide +kernel
theorem dX10_above_28 : decode cX10_above 28 = .ok (.goto 4, 3) := by decide +kernel
theorem dX10_above_31 : decode cX10_above 31 = .ok (.iconst 1, 1) := by decide +kernel
theorem dX10_above_32 : decode cX10_above 32 = .ok (.ireturn, 1) := by decide +kernel
theorem dX10_isUnder_0 : decode cX10_isUnder 0 = .ok (.iload_n 0, 1) := by decide +kernel
theorem dX10_isUnder_1 : decode cX10_isUnder 1 = .ok (.iload_n 1, 1) := by decide +kernel
theorem dX10_isUnder_2 : decode cX10_isUnder 2 = .ok (.if_icmp .eq 7, 3) := by decide +kernel
theorem dX10_isUnder_5 : decode cX10_isUnder 5 = .ok (.iload_n 1, 1) := by decide +kernel
theorem dX10_isUnder_6 : decode cX10_isUnder 6 = .ok (.ifCond .ne 5, 3) := by decide +kernel
theorem dX10_isUnder_9 : decode cX10_isUnder 9 = .ok (.iconst 1, 1) := by decide +kernel
theorem dX10_isUnder_10 : decode cX10_isUnder 10 = .ok (.ireturn, 1) := by decide +kernel
theorem dX10_isUnder_11 : decode cX10_isUnder 11 = .ok (.iload_n 1, 1) := by decide +kernel
theorem dX10_isUnder_12 : decode cX10_isUnder 12 = .ok (.bipush 6, 2) := by decide +kernel
theorem dX10_isUnder_14 : decode cX10_isUnder 14 = .ok (.if_icmp .ne 19, 3) := by decide +kernel
theorem dX10_isUnder_17 : decode cX10_isUnder 17 = .ok (.iload_n 0, 1) := by decide +kernel
theorem dX10_isUnder_18 : decode cX10_isUnder 18 = .ok (.iconst 3, 1) := by decide +kernel
theorem dX10_isUnder_19 : decode cX10_isUnder 19 = .ok (.if_icmp .eq 8, 3) := by decide +kernel
theorem dX10_isUnder_22 : decode cX10_isUnder 22 = .ok (.iload_n 0, 1) := by decide +kernel
theorem dX10_isUnder_23 : decode cX10_isUnder 23 = .ok (.iconst 4, 1) := by decide +kernel
theorem dX10_isUnder_24 : decode cX10_isUnder 24 = .ok (.if_icmp .ne 7, 3) := by decide +kernel
theorem dX10_isUnder_27 : decode cX10_isUnder 27 = .ok (.iconst 1, 1) := by decide +kernel
theorem dX10_isUnder_28 : decode cX10_isUnder 28 = .ok (.goto 4, 3) := by decide +kernel
theorem dX10_isUnder_31 : decode cX10_isUnder 31 = .ok (.iconst 0, 1) := by decide +kernel
theorem dX10_isUnder_32 : decode cX10_isUnder 32 = .ok (.ireturn, 1) := by decide +kernel
theorem dX10_isUnder_33 : decode cX10_isUnder 33 = .ok (.iload_n 1, 1) := by decide +kernel
theorem dX10_isUnder_34 : decode cX10_isUnder 34 = .ok (.bipush 7, 2) := by decide +kernel
theorem dX10_isUnder_36 : decode cX10_isUnder 36 = .ok (.if_icmp .ne 19, 3) := by decide +kernel
theorem dX10_isUnder_39 : decode cX10_isUnder 39 = .ok (.iload_n 0, 1) := by decide +kernel
theorem dX10_isUnder_40 : decode cX10_isUnder 40 = .ok (.iconst 4, 1) := by decide +kernel
theorem dX10_isUnder_41 : decode cX10_isUnder 41 = .ok (.if_icmp .eq 8, 3) := by decide +kernel
theorem dX10_isUnder_44 : decode cX10_isUnder 44 = .ok (.iload_n 0, 1) := by decide +kernel
theorem dX10_isUnder_45 : decode cX10_isUnder 45 = .ok (.iconst 5, 1) := by decide +kernel
theorem dX10_isUnder_46 : decode cX10_isUnder 46 = .ok (.if_icmp .ne 7, 3) := by decide +kernel
theorem dX10_isUnder_49 : decode cX10_isUnder 49 = .ok (.iconst 1, 1) := by decide +kernel
theorem dX10_isUnder_50 : decode cX10_isUnder 50 = .ok (.goto 4, 3) := by decide +kernel
theorem dX10_isUnder_53 : decode cX10_isUnder 53 = .ok (.iconst 0, 1) := by decide +kernel
theorem dX10_isUnder_54 : decode cX10_isUnder 54 = .ok (.ireturn, 1) := by decide +kernel
theorem dX10_isUnder_55 : decode cX10_isUnder 55 = .ok (.iload_n 0, 1) := by decide +kernel
theorem dX10_isUnder_56 : decode cX10_isUnder 56 = .ok (.istore_n 2, 1) := by decide +kernel
theorem dX10_isUnder_57 : decode cX10_isUnder 57 = .ok (.iload_n 2, 1) := by decide +kernel
theorem dX10_isUnder_58 : decode cX10_isUnder 58 = .ok (.iconst (-1), 1) := by decide +kernel
theorem dX10_isUnder_59 : decode cX10_isUnder 59 = .ok (.if_icmp .eq 16, 3) := by decide +kernel
theorem dX10_isUnder_62 : decode cX10_isUnder 62 = .ok (.iload_n 2, 1) := by decide +kernel
theorem dX10_isUnder_63 : decode cX10_isUnder 63 = .ok (.iload_n 1, 1) := by decide +kernel
theorem dX10_isUnder_64 : decode cX10_isUnder 64 = .ok (.if_icmp .eq 11, 3) := by decide +kernel
theorem dX10_isUnder_67 : decode cX10_isUnder 67 = .ok (.iload_n 2, 1) := by decide +kernel
theorem dX10_isUnder_68 : decode cX10_isUnder 68 = .ok (.invokestatic 83, 3) := by decide +kernel
theorem dX10_isUnder_71 : decode cX10_isUnder 71 = .ok (.istore_n 2, 1) := by decide +kernel
theorem dX10_isUnder_72 : decode cX10_isUnder 72 = .ok (.goto (-15), 3) := by decide +kernel
theorem dX10_isUnder_75 : decode cX10_isUnder 75 = .ok (.iload_n 2, 1) := by decide +kernel
theorem dX10_isUnder_76 : decode cX10_isUnder 76 = .ok (.iload_n 1, 1) := by decide +kernel
theorem dX10_isUnder_77 : decode cX10_isUnder 77 = .ok (.if_icmp .ne 7, 3) := by decide +kernel
theorem dX10_isUnder_80 : decode cX10_isUnder 80 = .ok (.iconst 1, 1) := by decide +kernel
theorem dX10_isUnder_81 : decode cX10_isUnder 81 = .ok (.goto 4, 3) := by decide +kernel
theorem dX10_isUnder_84 : decode cX10_isUnder 84 = .ok (.iconst 0, 1) := by decide +kernel
theorem dX10_isUnder_85 : decode cX10_isUnder 85 = .ok (.ireturn, 1) := by decide +kernel
theorem dX10_isObject_0 : decode cX10_isObject 0 = .ok (.iload_n 0, 1) := by decide +kernel
theorem dX10_isObject_1 : decode cX10_isObject 1 = .ok (.i2l, 1) := by decide +kernel
theorem dX10_isObject_2 : decode cX10_isObject 2 = .ok (.ldc2_w 87, 3) := by decide +kernel
theorem dX10_isObject_5 : decode cX10_isObject 5 = .ok (.ldc2_w 89, 3) := by decide +kernel
theorem dX10_isObject_8 : decode cX10_isObject 8 = .ok (.invokestatic 79, 3) := by decide +kernel
theorem dX10_isObject_11 : decode cX10_isObject 11 = .ok (.ireturn, 1) := by decide +kernel
theorem dX10_isRow_0 : decode cX10_isRow 0 = .ok (.iload_n 0, 1) := by decide +kernel
theorem dX10_isRow_1 : decode cX10_isRow 1 = .ok (.i2l, 1) := by decide +kernel
theorem dX10_isRow_2 : decode cX10_isRow 2 = .ok (.ldc2_w 91, 3) := by decide +kernel
theorem dX10_isRow_5 : decode cX10_isRow 5 = .ok (.ldc2_w 93, 3) := by decide +kernel
theorem dX10_isRow_8 : decode cX10_isRow 8 = .ok (.invokestatic 79, 3) := by decide +kernel
theorem dX10_isRow_11 : decode cX10_isRow 11 = .ok (.ireturn, 1) := by decide +kernel
theorem dX10_isThing_0 : decode cX10_isThing 0 = .ok (.iload_n 0, 1) := by decide +kernel
theorem dX10_isThing_1 : decode cX10_isThing 1 = .ok (.iconst 5, 1) := by decide +kernel
theorem dX10_isThing_2 : decode cX10_isThing 2 = .ok (.if_icmp .eq 17, 3) := by decide +kernel
theorem dX10_isThing_5 : decode cX10_isThing 5 = .ok (.iload_n 0, 1) := by decide +kernel
theorem dX10_isThing_6 : decode cX10_isThing 6 = .ok (.invokestatic 95, 3) := by decide +kernel
theorem dX10_isThing_9 : decode cX10_isThing 9 = .ok (.ifCond .ne 10, 3) := by decide +kernel
theorem dX10_isThing_12 : decode cX10_isThing 12 = .ok (.iload_n 0, 1) := by decide +kernel
theorem dX10_isThing_13 : decode cX10_isThing 13 = .ok (.invokestatic 99, 3) := by decide +kernel
theorem dX10_isThing_16 : decode cX10_isThing 16 = .ok (.ifCond .eq 7, 3) := by decide +kernel
theorem dX10_isThing_19 : decode cX10_isThing 19 = .ok (.iconst 1, 1) := by decide +kernel
theorem dX10_isThing_20 : decode cX10_isThing 20 = .ok (.goto 4, 3) := by decide +kernel
theorem dX10_isThing_23 : decode cX10_isThing 23 = .ok (.iconst 0, 1) := by decide +kernel
theorem dX10_isThing_24 : decode cX10_isThing 24 = .ok (.ireturn, 1) := by decide +kernel
theorem dX10_isKind_0 : decode cX10_isKind 0 = .ok (.iload_n 0, 1) := by decide +kernel
theorem dX10_isKind_1 : decode cX10_isKind 1 = .ok (.i2l, 1) := by decide +kernel
theorem dX10_isKind_2 : decode cX10_isKind 2 = .ok (.lconst 0, 1) := by decide +kernel
theorem dX10_isKind_3 : decode cX10_isKind 3 = .ok (.ldc2_w 102, 3) := by decide +kernel
theorem dX10_isKind_6 : decode cX10_isKind 6 = .ok (.invokestatic 79, 3) := by decide +kernel
theorem dX10_isKind_9 : decode cX10_isKind 9 = .ok (.ifCond .ne 31, 3) := by decide +kernel
theorem dX10_isKind_12 : decode cX10_isKind 12 = .ok (.iload_n 0, 1) := by decide +kernel
theorem dX10_isKind_13 : decode cX10_isKind 13 = .ok (.invokestatic 95, 3) := by decide +kernel
theorem dX10_isKind_16 : decode cX10_isKind 16 = .ok (.ifCond .ne 24, 3) := by decide +kernel
theorem dX10_isKind_19 : decode cX10_isKind 19 = .ok (.iload_n 0, 1) := by decide +kernel
theorem dX10_isKind_20 : decode cX10_isKind 20 = .ok (.invokestatic 99, 3) := by decide +kernel
theorem dX10_isKind_23 : decode cX10_isKind 23 = .ok (.ifCond .ne 17, 3) := by decide +kernel
theorem dX10_isKind_26 : decode cX10_isKind 26 = .ok (.iload_n 0, 1) := by decide +kernel
theorem dX10_isKind_27 : decode cX10_isKind 27 = .ok (.i2l, 1) := by decide +kernel
theorem dX10_isKind_28 : decode cX10_isKind 28 = .ok (.ldc2_w 104, 3) := by decide +kernel
theorem dX10_isKind_31 : decode cX10_isKind 31 = .ok (.ldc2_w 106, 3) := by decide +kernel
theorem dX10_isKind_34 : decode cX10_isKind 34 = .ok (.invokestatic 79, 3) := by decide +kernel
theorem dX10_isKind_37 : decode cX10_isKind 37 = .ok (.ifCond .eq 7, 3) := by decide +kernel
theorem dX10_isKind_40 : decode cX10_isKind 40 = .ok (.iconst 1, 1) := by decide +kernel
theorem dX10_isKind_41 : decode cX10_isKind 41 = .ok (.goto 4, 3) := by decide +kernel
theorem dX10_isKind_44 : decode cX10_isKind 44 = .ok (.iconst 0, 1) := by decide +kernel
theorem dX10_isKind_45 : decode cX10_isKind 45 = .ok (.ireturn, 1) := by decide +kernel
theorem dX10_goes_0 : decode cX10_goes 0 = .ok (.iload_n 0, 1) := by decide +kernel
theorem dX10_goes_1 : decode cX10_goes 1 = .ok (.iload_n 1, 1) := by decide +kernel
theorem dX10_goes_2 : decode cX10_goes 2 = .ok (.if_icmp .eq 7, 3) := by decide +kernel
theorem dX10_goes_5 : decode cX10_goes 5 = .ok (.iload_n 1, 1) := by decide +kernel
theorem dX10_goes_6 : decode cX10_goes 6 = .ok (.ifCond .ne 5, 3) := by decide +kernel
theorem dX10_goes_9 : decode cX10_goes 9 = .ok (.iconst 1, 1) := by decide +kernel
theorem dX10_goes_10 : decode cX10_goes 10 = .ok (.ireturn, 1) := by decide +kernel
theorem dX10_goes_11 : decode cX10_goes 11 = .ok (.iload_n 0, 1) := by decide +kernel
theorem dX10_goes_12 : decode cX10_goes 12 = .ok (.iconst 4, 1) := by decide +kernel
theorem dX10_goes_13 : decode cX10_goes 13 = .ok (.if_icmp .ne 8, 3) := by decide +kernel
theorem dX10_goes_16 : decode cX10_goes 16 = .ok (.iload_n 1, 1) := by decide +kernel
theorem dX10_goes_17 : decode cX10_goes 17 = .ok (.invokestatic 108, 3) := by decide +kernel
theorem dX10_goes_20 : decode cX10_goes 20 = .ok (.ireturn, 1) := by decide +kernel
theorem dX10_goes_21 : decode cX10_goes 21 = .ok (.iload_n 0, 1) := by decide +kernel
theorem dX10_goes_22 : decode cX10_goes 22 = .ok (.invokestatic 95, 3) := by decide +kernel
theorem dX10_goes_25 : decode cX10_goes 25 = .ok (.ifCond .eq 36, 3) := by decide +kernel
theorem dX10_goes_28 : decode cX10_goes 28 = .ok (.iload_n 1, 1) := by decide +kernel
theorem dX10_goes_29 : decode cX10_goes 29 = .ok (.invokestatic 95, 3) := by decide +kernel
theorem dX10_goes_32 : decode cX10_goes 32 = .ok (.ifCond .eq 29, 3) := by decide +kernel
theorem dX10_goes_35 : decode cX10_goes 35 = .ok (.iload_n 1, 1) := by decide +kernel
theorem dX10_goes_36 : decode cX10_goes 36 = .ok (.bipush 15, 2) := by decide +kernel
theorem dX10_goes_38 : decode cX10_goes 38 = .ok (.if_icmp .gt 17, 3) := by decide +kernel
theorem dX10_goes_41 : decode cX10_goes 41 = .ok (.iload_n 0, 1) := by decide +kernel
theorem dX10_goes_42 : decode cX10_goes 42 = .ok (.bipush 10, 2) := by decide +kernel
theorem dX10_goes_44 : decode cX10_goes 44 = .ok (.isub, 1) := by decide +kernel
theorem dX10_goes_45 : decode cX10_goes 45 = .ok (.iload_n 1, 1) := by decide +kernel
theorem dX10_goes_46 : decode cX10_goes 46 = .ok (.bipush 10, 2) := by decide +kernel
theorem dX10_goes_48 : decode cX10_goes 48 = .ok (.isub, 1) := by decide +kernel
theorem dX10_goes_49 : decode cX10_goes 49 = .ok (.invokestatic 111, 3) := by decide +kernel
theorem dX10_goes_52 : decode cX10_goes 52 = .ok (.ifCond .eq 7, 3) := by decide +kernel
theorem dX10_goes_55 : decode cX10_goes 55 = .ok (.iconst 1, 1) := by decide +kernel
theorem dX10_goes_56 : decode cX10_goes 56 = .ok (.goto 4, 3) := by decide +kernel
theorem dX10_goes_59 : decode cX10_goes 59 = .ok (.iconst 0, 1) := by decide +kernel
theorem dX10_goes_60 : decode cX10_goes 60 = .ok (.ireturn, 1) := by decide +kernel
theorem dX10_goes_61 : decode cX10_goes 61 = .ok (.iload_n 0, 1) := by decide +kernel
theorem dX10_goes_62 : decode cX10_goes 62 = .ok (.iconst 5, 1) := by decide +kernel
theorem dX10_goes_63 : decode cX10_goes 63 = .ok (.if_icmp .eq 10, 3) := by decide +kernel
theorem dX10_goes_66 : decode cX10_goes 66 = .ok (.iload_n 0, 1) := by decide +kernel
theorem dX10_goes_67 : decode cX10_goes 67 = .ok (.invokestatic 99, 3) := by decide +kernel
theorem dX10_goes_70 : decode cX10_goes 70 = .ok (.ifCond .eq 28, 3) := by decide +kernel
theorem dX10_goes_73 : decode cX10_goes 73 = .ok (.iload_n 1, 1) := by decide +kernel
theorem dX10_goes_74 : decode cX10_goes 74 = .ok (.invokestatic 95, 3) := by decide +kernel
theorem dX10_goes_77 : decode cX10_goes 77 = .ok (.ifCond .eq 21, 3) := by decide +kernel
theorem dX10_goes_80 : decode cX10_goes 80 = .ok (.iload_n 1, 1) := by decide +kernel
theorem dX10_goes_81 : decode cX10_goes 81 = .ok (.bipush 10, 2) := by decide +kernel
theorem dX10_goes_83 : decode cX10_goes 83 = .ok (.if_icmp .eq 9, 3) := by decide +kernel
theorem dX10_goes_86 : decode cX10_goes 86 = .ok (.iload_n 1, 1) := by decide +kernel
theorem dX10_goes_87 : decode cX10_goes 87 = .ok (.bipush 15, 2) := by decide +kernel
theorem dX10_goes_89 : decode cX10_goes 89 = .ok (.if_icmp .le 7, 3) := by decide +kernel
theorem dX10_goes_92 : decode cX10_goes 92 = .ok (.iconst 1, 1) := by decide +kernel
theorem dX10_goes_93 : decode cX10_goes 93 = .ok (.goto 4, 3) := by decide +kernel
theorem dX10_goes_96 : decode cX10_goes 96 = .ok (.iconst 0, 1) := by decide +kernel
theorem dX10_goes_97 : decode cX10_goes 97 = .ok (.ireturn, 1) := by decide +kernel
theorem dX10_goes_98 : decode cX10_goes 98 = .ok (.iload_n 0, 1) := by decide +kernel
theorem dX10_goes_99 : decode cX10_goes 99 = .ok (.invokestatic 99, 3) := by decide +kernel
theorem dX10_goes_102 : decode cX10_goes 102 = .ok (.ifCond .eq 28, 3) := by decide +kernel
theorem dX10_goes_105 : decode cX10_goes 105 = .ok (.iload_n 1, 1) := by decide +kernel
theorem dX10_goes_106 : decode cX10_goes 106 = .ok (.invokestatic 99, 3) := by decide +kernel
theorem dX10_goes_109 : decode cX10_goes 109 = .ok (.ifCond .eq 21, 3) := by decide +kernel
theorem dX10_goes_112 : decode cX10_goes 112 = .ok (.iload_n 0, 1) := by decide +kernel
theorem dX10_goes_113 : decode cX10_goes 113 = .ok (.bipush 20, 2) := by decide +kernel
theorem dX10_goes_115 : decode cX10_goes 115 = .ok (.isub, 1) := by decide +kernel
theorem dX10_goes_116 : decode cX10_goes 116 = .ok (.iload_n 1, 1) := by decide +kernel
theorem dX10_goes_117 : decode cX10_goes 117 = .ok (.bipush 20, 2) := by decide +kernel
theorem dX10_goes_119 : decode cX10_goes 119 = .ok (.isub, 1) := by decide +kernel
theorem dX10_goes_120 : decode cX10_goes 120 = .ok (.invokestatic 111, 3) := by decide +kernel
theorem dX10_goes_123 : decode cX10_goes 123 = .ok (.ifCond .eq 7, 3) := by decide +kernel
theorem dX10_goes_126 : decode cX10_goes 126 = .ok (.iconst 1, 1) := by decide +kernel
theorem dX10_goes_127 : decode cX10_goes 127 = .ok (.goto 4, 3) := by decide +kernel
theorem dX10_goes_130 : decode cX10_goes 130 = .ok (.iconst 0, 1) := by decide +kernel
theorem dX10_goes_131 : decode cX10_goes 131 = .ok (.ireturn, 1) := by decide +kernel
theorem dX10_common_0 : decode cX10_common 0 = .ok (.iload_n 0, 1) := by decide +kernel
theorem dX10_common_1 : decode cX10_common 1 = .ok (.iconst 5, 1) := by decide +kernel
theorem dX10_common_2 : decode cX10_common 2 = .ok (.if_icmp .le 7, 3) := by decide +kernel
theorem dX10_common_5 : decode cX10_common 5 = .ok (.iconst 0, 1) := by decide +kernel
theorem dX10_common_6 : decode cX10_common 6 = .ok (.goto 4, 3) := by decide +kernel
theorem dX10_common_9 : decode cX10_common 9 = .ok (.iload_n 0, 1) := by decide +kernel
theorem dX10_common_10 : decode cX10_common 10 = .ok (.istore_n 2, 1) := by decide +kernel
theorem dX10_common_11 : decode cX10_common 11 = .ok (.iload_n 1, 1) := by decide +kernel
theorem dX10_common_12 : decode cX10_common 12 = .ok (.iload_n 2, 1) := by decide +kernel
theorem dX10_common_13 : decode cX10_common 13 = .ok (.invokestatic 111, 3) := by decide +kernel
theorem dX10_common_16 : decode cX10_common 16 = .ok (.ifCond .ne 11, 3) := by decide +kernel
theorem dX10_common_19 : decode cX10_common 19 = .ok (.iload_n 2, 1) := by decide +kernel
theorem dX10_common_20 : decode cX10_common 20 = .ok (.invokestatic 83, 3) := by decide +kernel
theorem dX10_common_23 : decode cX10_common 23 = .ok (.istore_n 2, 1) := by decide +kernel
theorem dX10_common_24 : decode cX10_common 24 = .ok (.goto (-13), 3) := by decide +kernel
theorem dX10_common_27 : decode cX10_common 27 = .ok (.iload_n 2, 1) := by decide +kernel
theorem dX10_common_28 : decode cX10_common 28 = .ok (.ireturn, 1) := by decide +kernel
theorem dX10_joined_0 : decode cX10_joined 0 = .ok (.iload_n 0, 1) := by decide +kernel
theorem dX10_joined_1 : decode cX10_joined 1 = .ok (.iload_n 1, 1) := by decide +kernel
theorem dX10_joined_2 : decode cX10_joined 2 = .ok (.if_icmp .ne 5, 3) := by decide +kernel
theorem dX10_joined_5 : decode cX10_joined 5 = .ok (.iload_n 0, 1) := by decide +kernel
theorem dX10_joined_6 : decode cX10_joined 6 = .ok (.ireturn, 1) := by decide +kernel
theorem dX10_joined_7 : decode cX10_joined 7 = .ok (.iload_n 0, 1) := by decide +kernel
theorem dX10_joined_8 : decode cX10_joined 8 = .ok (.iconst 4, 1) := by decide +kernel
theorem dX10_joined_9 : decode cX10_joined 9 = .ok (.if_icmp .ne 12, 3) := by decide +kernel
theorem dX10_joined_12 : decode cX10_joined 12 = .ok (.iload_n 1, 1) := by decide +kernel
theorem dX10_joined_13 : decode cX10_joined 13 = .ok (.invokestatic 108, 3) := by decide +kernel
theorem dX10_joined_16 : decode cX10_joined 16 = .ok (.ifCond .eq 5, 3) := by decide +kernel
theorem dX10_joined_19 : decode cX10_joined 19 = .ok (.iload_n 1, 1) := by decide +kernel
theorem dX10_joined_20 : decode cX10_joined 20 = .ok (.ireturn, 1) := by decide +kernel
theorem dX10_joined_21 : decode cX10_joined 21 = .ok (.iload_n 1, 1) := by decide +kernel
theorem dX10_joined_22 : decode cX10_joined 22 = .ok (.iconst 4, 1) := by decide +kernel
theorem dX10_joined_23 : decode cX10_joined 23 = .ok (.if_icmp .ne 12, 3) := by decide +kernel
theorem dX10_joined_26 : decode cX10_joined 26 = .ok (.iload_n 0, 1) := by decide +kernel
theorem dX10_joined_27 : decode cX10_joined 27 = .ok (.invokestatic 108, 3) := by decide +kernel
theorem dX10_joined_30 : decode cX10_joined 30 = .ok (.ifCond .eq 5, 3) := by decide +kernel
theorem dX10_joined_33 : decode cX10_joined 33 = .ok (.iload_n 0, 1) := by decide +kernel
theorem dX10_joined_34 : decode cX10_joined 34 = .ok (.ireturn, 1) := by decide +kernel
theorem dX10_joined_35 : decode cX10_joined 35 = .ok (.iload_n 0, 1) := by decide +kernel
theorem dX10_joined_36 : decode cX10_joined 36 = .ok (.invokestatic 95, 3) := by decide +kernel
theorem dX10_joined_39 : decode cX10_joined 39 = .ok (.ifCond .eq 25, 3) := by decide +kernel
theorem dX10_joined_42 : decode cX10_joined 42 = .ok (.iload_n 1, 1) := by decide +kernel
theorem dX10_joined_43 : decode cX10_joined 43 = .ok (.invokestatic 95, 3) := by decide +kernel
theorem dX10_joined_46 : decode cX10_joined 46 = .ok (.ifCond .eq 18, 3) := by decide +kernel
theorem dX10_joined_49 : decode cX10_joined 49 = .ok (.bipush 10, 2) := by decide +kernel
theorem dX10_joined_51 : decode cX10_joined 51 = .ok (.iload_n 0, 1) := by decide +kernel
theorem dX10_joined_52 : decode cX10_joined 52 = .ok (.bipush 10, 2) := by decide +kernel
theorem dX10_joined_54 : decode cX10_joined 54 = .ok (.isub, 1) := by decide +kernel
theorem dX10_joined_55 : decode cX10_joined 55 = .ok (.iload_n 1, 1) := by decide +kernel
theorem dX10_joined_56 : decode cX10_joined 56 = .ok (.bipush 10, 2) := by decide +kernel
theorem dX10_joined_58 : decode cX10_joined 58 = .ok (.isub, 1) := by decide +kernel
theorem dX10_joined_59 : decode cX10_joined 59 = .ok (.invokestatic 115, 3) := by decide +kernel
theorem dX10_joined_62 : decode cX10_joined 62 = .ok (.iadd, 1) := by decide +kernel
theorem dX10_joined_63 : decode cX10_joined 63 = .ok (.ireturn, 1) := by decide +kernel
theorem dX10_joined_64 : decode cX10_joined 64 = .ok (.iload_n 0, 1) := by decide +kernel
theorem dX10_joined_65 : decode cX10_joined 65 = .ok (.invokestatic 99, 3) := by decide +kernel
theorem dX10_joined_68 : decode cX10_joined 68 = .ok (.ifCond .eq 25, 3) := by decide +kernel
theorem dX10_joined_71 : decode cX10_joined 71 = .ok (.iload_n 1, 1) := by decide +kernel
theorem dX10_joined_72 : decode cX10_joined 72 = .ok (.invokestatic 99, 3) := by decide +kernel
theorem dX10_joined_75 : decode cX10_joined 75 = .ok (.ifCond .eq 18, 3) := by decide +kernel
theorem dX10_joined_78 : decode cX10_joined 78 = .ok (.bipush 20, 2) := by decide +kernel
theorem dX10_joined_80 : decode cX10_joined 80 = .ok (.iload_n 0, 1) := by decide +kernel
theorem dX10_joined_81 : decode cX10_joined 81 = .ok (.bipush 20, 2) := by decide +kernel
theorem dX10_joined_83 : decode cX10_joined 83 = .ok (.isub, 1) := by decide +kernel
theorem dX10_joined_84 : decode cX10_joined 84 = .ok (.iload_n 1, 1) := by decide +kernel
theorem dX10_joined_85 : decode cX10_joined 85 = .ok (.bipush 20, 2) := by decide +kernel
theorem dX10_joined_87 : decode cX10_joined 87 = .ok (.isub, 1) := by decide +kernel
theorem dX10_joined_88 : decode cX10_joined 88 = .ok (.invokestatic 115, 3) := by decide +kernel
theorem dX10_joined_91 : decode cX10_joined 91 = .ok (.iadd, 1) := by decide +kernel
theorem dX10_joined_92 : decode cX10_joined 92 = .ok (.ireturn, 1) := by decide +kernel
theorem dX10_joined_93 : decode cX10_joined 93 = .ok (.iload_n 0, 1) := by decide +kernel
theorem dX10_joined_94 : decode cX10_joined 94 = .ok (.invokestatic 108, 3) := by decide +kernel
theorem dX10_joined_97 : decode cX10_joined 97 = .ok (.ifCond .eq 15, 3) := by decide +kernel
theorem dX10_joined_100 : decode cX10_joined 100 = .ok (.iload_n 1, 1) := by decide +kernel
theorem dX10_joined_101 : decode cX10_joined 101 = .ok (.invokestatic 108, 3) := by decide +kernel
theorem dX10_joined_104 : decode cX10_joined 104 = .ok (.ifCond .eq 8, 3) := by decide +kernel
theorem dX10_joined_107 : decode cX10_joined 107 = .ok (.bipush 10, 2) := by decide +kernel
theorem dX10_joined_109 : decode cX10_joined 109 = .ok (.goto 4, 3) := by decide +kernel
theorem dX10_joined_112 : decode cX10_joined 112 = .ok (.iconst 0, 1) := by decide +kernel
theorem dX10_joined_113 : decode cX10_joined 113 = .ok (.ireturn, 1) := by decide +kernel
theorem dX10_isOnePlace_0 : decode cX10_isOnePlace 0 = .ok (.iload_n 0, 1) := by decide +kernel
theorem dX10_isOnePlace_1 : decode cX10_isOnePlace 1 = .ok (.iconst 1, 1) := by decide +kernel
theorem dX10_isOnePlace_2 : decode cX10_isOnePlace 2 = .ok (.if_icmp .eq 8, 3) := by decide +kernel
theorem dX10_isOnePlace_5 : decode cX10_isOnePlace 5 = .ok (.iload_n 0, 1) := by decide +kernel
theorem dX10_isOnePlace_6 : decode cX10_isOnePlace 6 = .ok (.iconst 4, 1) := by decide +kernel
theorem dX10_isOnePlace_7 : decode cX10_isOnePlace 7 = .ok (.if_icmp .lt 7, 3) := by decide +kernel
theorem dX10_isOnePlace_10 : decode cX10_isOnePlace 10 = .ok (.iconst 1, 1) := by decide +kernel
theorem dX10_isOnePlace_11 : decode cX10_isOnePlace 11 = .ok (.goto 4, 3) := by decide +kernel
theorem dX10_isOnePlace_14 : decode cX10_isOnePlace 14 = .ok (.iconst 0, 1) := by decide +kernel
theorem dX10_isOnePlace_15 : decode cX10_isOnePlace 15 = .ok (.ireturn, 1) := by decide +kernel
