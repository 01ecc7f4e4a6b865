theorem dX4_does_20 : decode cX4_does 20 = .ok (.iload_n 2, 1) := by decide +kernel
theorem dX4_does_21 : decode cX4_does 21 = .ok (.lload_n 3, 1) := by decide +kernel
theorem dX4_does_22 : decode cX4_does 22 = .ok (.invokevirtual 126, 3) := by decide +kernel
theorem dX4_does_25 : decode cX4_does 25 = .ok (.ireturn, 1) := by decide +kernel
theorem dX4_does_26 : decode cX4_does 26 = .ok (.iload_n 2, 1) := by decide +kernel
theorem dX4_does_27 : decode cX4_does 27 = .ok (.bipush 15, 2) := by decide +kernel
theorem dX4_does_29 : decode cX4_does 29 = .ok (.if_icmp .gt 10, 3) := by decide +kernel
theorem dX4_does_32 : decode cX4_does 32 = .ok (.aload_n 0, 1) := by decide +kernel
theorem dX4_does_33 : decode cX4_does 33 = .ok (.iload_n 2, 1) := by decide +kernel
theorem dX4_does_34 : decode cX4_does 34 = .ok (.lload_n 3, 1) := by decide +kernel
theorem dX4_does_35 : decode cX4_does 35 = .ok (.invokevirtual 129, 3) := by decide +kernel
theorem dX4_does_38 : decode cX4_does 38 = .ok (.ireturn, 1) := by decide +kernel
theorem dX4_does_39 : decode cX4_does 39 = .ok (.iload_n 2, 1) := by decide +kernel
theorem dX4_does_40 : decode cX4_does 40 = .ok (.bipush 20, 2) := by decide +kernel
theorem dX4_does_42 : decode cX4_does 42 = .ok (.if_icmp .gt 9, 3) := by decide +kernel
theorem dX4_does_45 : decode cX4_does 45 = .ok (.aload_n 0, 1) := by decide +kernel
theorem dX4_does_46 : decode cX4_does 46 = .ok (.iload_n 2, 1) := by decide +kernel
theorem dX4_does_47 : decode cX4_does 47 = .ok (.invokevirtual 132, 3) := by decide +kernel
theorem dX4_does_50 : decode cX4_does 50 = .ok (.ireturn, 1) := by decide +kernel
theorem dX4_does_51 : decode cX4_does 51 = .ok (.iload_n 2, 1) := by decide +kernel
theorem dX4_does_52 : decode cX4_does 52 = .ok (.bipush 22, 2) := by decide +kernel
theorem dX4_does_54 : decode cX4_does 54 = .ok (.if_icmp .gt 11, 3) := by decide +kernel
theorem dX4_does_57 : decode cX4_does 57 = .ok (.aload_n 0, 1) := by decide +kernel
theorem dX4_does_58 : decode cX4_does 58 = .ok (.iload_n 2, 1) := by decide +kernel
theorem dX4_does_59 : decode cX4_does 59 = .ok (.lload_n 3, 1) := by decide +kernel
theorem dX4_does_60 : decode cX4_does 60 = .ok (.l2i, 1) := by decide +kernel
theorem dX4_does_61 : decode cX4_does 61 = .ok (.invokevirtual 136, 3) := by decide +kernel
theorem dX4_does_64 : decode cX4_does 64 = .ok (.ireturn, 1) := by decide +kernel
theorem dX4_does_65 : decode cX4_does 65 = .ok (.iload_n 2, 1) := by decide +kernel
theorem dX4_does_66 : decode cX4_does 66 = .ok (.bipush 25, 2) := by decide +kernel
theorem dX4_does_68 : decode cX4_does 68 = .ok (.if_icmp .gt 9, 3) := by decide +kernel
theorem dX4_does_71 : decode cX4_does 71 = .ok (.aload_n 0, 1) := by decide +kernel
theorem dX4_does_72 : decode cX4_does 72 = .ok (.iload_n 2, 1) := by decide +kernel
theorem dX4_does_73 : decode cX4_does 73 = .ok (.invokevirtual 139, 3) := by decide +kernel
theorem dX4_does_76 : decode cX4_does 76 = .ok (.ireturn, 1) := by decide +kernel
theorem dX4_does_77 : decode cX4_does 77 = .ok (.iload_n 2, 1) := by decide +kernel
theorem dX4_does_78 : decode cX4_does 78 = .ok (.bipush 28, 2) := by decide +kernel
theorem dX4_does_80 : decode cX4_does 80 = .ok (.if_icmp .gt 9, 3) := by decide +kernel
theorem dX4_does_83 : decode cX4_does 83 = .ok (.aload_n 0, 1) := by decide +kernel
theorem dX4_does_84 : decode cX4_does 84 = .ok (.iload_n 2, 1) := by decide +kernel
theorem dX4_does_85 : decode cX4_does 85 = .ok (.invokevirtual 142, 3) := by decide +kernel
theorem dX4_does_88 : decode cX4_does 88 = .ok (.ireturn, 1) := by decide +kernel
theorem dX4_does_89 : decode cX4_does 89 = .ok (.aload_n 0, 1) := by decide +kernel
theorem dX4_does_90 : decode cX4_does 90 = .ok (.aload_n 1, 1) := by decide +kernel
theorem dX4_does_91 : decode cX4_does 91 = .ok (.iload_n 2, 1) := by decide +kernel
theorem dX4_does_92 : decode cX4_does 92 = .ok (.lload_n 3, 1) := by decide +kernel
theorem dX4_does_93 : decode cX4_does 93 = .ok (.invokevirtual 145, 3) := by decide +kernel
theorem dX4_does_96 : decode cX4_does 96 = .ok (.ireturn, 1) := by decide +kernel
theorem dX4_moves_0 : decode cX4_moves 0 = .ok (.iload_n 1, 1) := by decide +kernel
theorem dX4_moves_1 : decode cX4_moves 1 = .ok (.tableswitch 50 0 2 #[27, 36, 43], 27) := by decide +kernel
theorem dX4_moves_28 : decode cX4_moves 28 = .ok (.aload_n 0, 1) := by decide +kernel
theorem dX4_moves_29 : decode cX4_moves 29 = .ok (.lload_n 2, 1) := by decide +kernel
theorem dX4_moves_30 : decode cX4_moves 30 = .ok (.l2i, 1) := by decide +kernel
theorem dX4_moves_31 : decode cX4_moves 31 = .ok (.i2l, 1) := by decide +kernel
theorem dX4_moves_32 : decode cX4_moves 32 = .ok (.invokevirtual 112, 3) := by decide +kernel
theorem dX4_moves_35 : decode cX4_moves 35 = .ok (.iconst 0, 1) := by decide +kernel
theorem dX4_moves_36 : decode cX4_moves 36 = .ok (.ireturn, 1) := by decide +kernel
theorem dX4_moves_37 : decode cX4_moves 37 = .ok (.aload_n 0, 1) := by decide +kernel
theorem dX4_moves_38 : decode cX4_moves 38 = .ok (.lload_n 2, 1) := by decide +kernel
theorem dX4_moves_39 : decode cX4_moves 39 = .ok (.invokevirtual 148, 3) := by decide +kernel
theorem dX4_moves_42 : decode cX4_moves 42 = .ok (.iconst 0, 1) := by decide +kernel
theorem dX4_moves_43 : decode cX4_moves 43 = .ok (.ireturn, 1) := by decide +kernel
theorem dX4_moves_44 : decode cX4_moves 44 = .ok (.aload_n 0, 1) := by decide +kernel
theorem dX4_moves_45 : decode cX4_moves 45 = .ok (.lconst 0, 1) := by decide +kernel
theorem dX4_moves_46 : decode cX4_moves 46 = .ok (.invokevirtual 112, 3) := by decide +kernel
theorem dX4_moves_49 : decode cX4_moves 49 = .ok (.iconst 0, 1) := by decide +kernel
theorem dX4_moves_50 : decode cX4_moves 50 = .ok (.ireturn, 1) := by decide +kernel
theorem dX4_moves_51 : decode cX4_moves 51 = .ok (.lload_n 2, 1) := by decide +kernel
theorem dX4_moves_52 : decode cX4_moves 52 = .ok (.lconst 0, 1) := by decide +kernel
theorem dX4_moves_53 : decode cX4_moves 53 = .ok (.lcmp, 1) := by decide +kernel
theorem dX4_moves_54 : decode cX4_moves 54 = .ok (.ifCond .lt 11, 3) := by decide +kernel
theorem dX4_moves_57 : decode cX4_moves 57 = .ok (.lload_n 2, 1) := by decide +kernel
theorem dX4_moves_58 : decode cX4_moves 58 = .ok (.ldc2_w 151, 3) := by decide +kernel
theorem dX4_moves_61 : decode cX4_moves 61 = .ok (.lcmp, 1) := by decide +kernel
theorem dX4_moves_62 : decode cX4_moves 62 = .ok (.ifCond .lt 5, 3) := by decide +kernel
theorem dX4_moves_65 : decode cX4_moves 65 = .ok (.iconst 0, 1) := by decide +kernel
theorem dX4_moves_66 : decode cX4_moves 66 = .ok (.ireturn, 1) := by decide +kernel
theorem dX4_moves_67 : decode cX4_moves 67 = .ok (.aload_n 0, 1) := by decide +kernel
theorem dX4_moves_68 : decode cX4_moves 68 = .ok (.getfield 50, 3) := by decide +kernel
theorem dX4_moves_71 : decode cX4_moves 71 = .ok (.bipush 8, 2) := by decide +kernel
theorem dX4_moves_73 : decode cX4_moves 73 = .ok (.imul, 1) := by decide +kernel
theorem dX4_moves_74 : decode cX4_moves 74 = .ok (.lload_n 2, 1) := by decide +kernel
theorem dX4_moves_75 : decode cX4_moves 75 = .ok (.l2i, 1) := by decide +kernel
theorem dX4_moves_76 : decode cX4_moves 76 = .ok (.iadd, 1) := by decide +kernel
theorem dX4_moves_77 : decode cX4_moves 77 = .ok (.istore 4, 2) := by decide +kernel
theorem dX4_moves_79 : decode cX4_moves 79 = .ok (.iload_n 1, 1) := by decide +kernel
theorem dX4_moves_80 : decode cX4_moves 80 = .ok (.tableswitch 67 3 5 #[28, 41, 54], 28) := by decide +kernel
theorem dX4_moves_108 : decode cX4_moves 108 = .ok (.aload_n 0, 1) := by decide +kernel
theorem dX4_moves_109 : decode cX4_moves 109 = .ok (.aload_n 0, 1) := by decide +kernel
theorem dX4_moves_110 : decode cX4_moves 110 = .ok (.getfield 35, 3) := by decide +kernel
theorem dX4_moves_113 : decode cX4_moves 113 = .ok (.iload 4, 2) := by decide +kernel
theorem dX4_moves_115 : decode cX4_moves 115 = .ok (.laload, 1) := by decide +kernel
theorem dX4_moves_116 : decode cX4_moves 116 = .ok (.invokevirtual 112, 3) := by decide +kernel
theorem dX4_moves_119 : decode cX4_moves 119 = .ok (.iconst 0, 1) := by decide +kernel
theorem dX4_moves_120 : decode cX4_moves 120 = .ok (.ireturn, 1) := by decide +kernel
theorem dX4_moves_121 : decode cX4_moves 121 = .ok (.aload_n 0, 1) := by decide +kernel
theorem dX4_moves_122 : decode cX4_moves 122 = .ok (.getfield 35, 3) := by decide +kernel
theorem dX4_moves_125 : decode cX4_moves 125 = .ok (.iload 4, 2) := by decide +kernel
theorem dX4_moves_127 : decode cX4_moves 127 = .ok (.aload_n 0, 1) := by decide +kernel
theorem dX4_moves_128 : decode cX4_moves 128 = .ok (.invokevirtual 116, 3) := by decide +kernel
theorem dX4_moves_131 : decode cX4_moves 131 = .ok (.lastore, 1) := by decide +kernel
theorem dX4_moves_132 : decode cX4_moves 132 = .ok (.iconst 0, 1) := by decide +kernel
theorem dX4_moves_133 : decode cX4_moves 133 = .ok (.ireturn, 1) := by decide +kernel
theorem dX4_moves_134 : decode cX4_moves 134 = .ok (.aload_n 0, 1) := by decide +kernel
theorem dX4_moves_135 : decode cX4_moves 135 = .ok (.aload_n 0, 1) := by decide +kernel
theorem dX4_moves_136 : decode cX4_moves 136 = .ok (.getfield 35, 3) := by decide +kernel
theorem dX4_moves_139 : decode cX4_moves 139 = .ok (.iload 4, 2) := by decide +kernel
theorem dX4_moves_141 : decode cX4_moves 141 = .ok (.laload, 1) := by decide +kernel
theorem dX4_moves_142 : decode cX4_moves 142 = .ok (.invokevirtual 148, 3) := by decide +kernel
theorem dX4_moves_145 : decode cX4_moves 145 = .ok (.iconst 0, 1) := by decide +kernel
theorem dX4_moves_146 : decode cX4_moves 146 = .ok (.ireturn, 1) := by decide +kernel
theorem dX4_moves_147 : decode cX4_moves 147 = .ok (.aload_n 0, 1) := by decide +kernel
theorem dX4_moves_148 : decode cX4_moves 148 = .ok (.getfield 35, 3) := by decide +kernel
theorem dX4_moves_151 : decode cX4_moves 151 = .ok (.iload 4, 2) := by decide +kernel
theorem dX4_moves_153 : decode cX4_moves 153 = .ok (.aload_n 0, 1) := by decide +kernel
theorem dX4_moves_154 : decode cX4_moves 154 = .ok (.invokevirtual 153, 3) := by decide +kernel
theorem dX4_moves_157 : decode cX4_moves 157 = .ok (.lastore, 1) := by decide +kernel
theorem dX4_moves_158 : decode cX4_moves 158 = .ok (.iconst 0, 1) := by decide +kernel
theorem dX4_moves_159 : decode cX4_moves 159 = .ok (.ireturn, 1) := by decide +kernel
theorem dX4_reckons_0 : decode cX4_reckons 0 = .ok (.iload_n 1, 1) := by decide +kernel
theorem dX4_reckons_1 : decode cX4_reckons 1 = .ok (.tableswitch 68 7 10 #[31, 38, 45, 56], 31) := by decide +kernel
theorem dX4_reckons_32 : decode cX4_reckons 32 = .ok (.aload_n 0, 1) := by decide +kernel
theorem dX4_reckons_33 : decode cX4_reckons 33 = .ok (.lload_n 2, 1) := by decide +kernel
theorem dX4_reckons_34 : decode cX4_reckons 34 = .ok (.l2i, 1) := by decide +kernel
theorem dX4_reckons_35 : decode cX4_reckons 35 = .ok (.invokevirtual 156, 3) := by decide +kernel
theorem dX4_reckons_38 : decode cX4_reckons 38 = .ok (.ireturn, 1) := by decide +kernel
theorem dX4_reckons_39 : decode cX4_reckons 39 = .ok (.aload_n 0, 1) := by decide +kernel
theorem dX4_reckons_40 : decode cX4_reckons 40 = .ok (.lload_n 2, 1) := by decide +kernel
theorem dX4_reckons_41 : decode cX4_reckons 41 = .ok (.l2i, 1) := by decide +kernel
theorem dX4_reckons_42 : decode cX4_reckons 42 = .ok (.invokevirtual 159, 3) := by decide +kernel
theorem dX4_reckons_45 : decode cX4_reckons 45 = .ok (.ireturn, 1) := by decide +kernel
theorem dX4_reckons_46 : decode cX4_reckons 46 = .ok (.aload_n 0, 1) := by decide +kernel
theorem dX4_reckons_47 : decode cX4_reckons 47 = .ok (.aload_n 0, 1) := by decide +kernel
theorem dX4_reckons_48 : decode cX4_reckons 48 = .ok (.invokevirtual 162, 3) := by decide +kernel
theorem dX4_reckons_51 : decode cX4_reckons 51 = .ok (.i2l, 1) := by decide +kernel
theorem dX4_reckons_52 : decode cX4_reckons 52 = .ok (.invokevirtual 148, 3) := by decide +kernel
theorem dX4_reckons_55 : decode cX4_reckons 55 = .ok (.iconst 0, 1) := by decide +kernel
theorem dX4_reckons_56 : decode cX4_reckons 56 = .ok (.ireturn, 1) := by decide +kernel
theorem dX4_reckons_57 : decode cX4_reckons 57 = .ok (.aload_n 0, 1) := by decide +kernel
theorem dX4_reckons_58 : decode cX4_reckons 58 = .ok (.aload_n 0, 1) := by decide +kernel
theorem dX4_reckons_59 : decode cX4_reckons 59 = .ok (.invokevirtual 153, 3) := by decide +kernel
theorem dX4_reckons_62 : decode cX4_reckons 62 = .ok (.l2i, 1) := by decide +kernel
theorem dX4_reckons_63 : decode cX4_reckons 63 = .ok (.i2l, 1) := by decide +kernel
theorem dX4_reckons_64 : decode cX4_reckons 64 = .ok (.invokevirtual 112, 3) := by decide +kernel
theorem dX4_reckons_67 : decode cX4_reckons 67 = .ok (.iconst 0, 1) := by decide +kernel
theorem dX4_reckons_68 : decode cX4_reckons 68 = .ok (.ireturn, 1) := by decide +kernel
theorem dX4_reckons_69 : decode cX4_reckons 69 = .ok (.aload_n 0, 1) := by decide +kernel
theorem dX4_reckons_70 : decode cX4_reckons 70 = .ok (.invokevirtual 153, 3) := by decide +kernel
theorem dX4_reckons_73 : decode cX4_reckons 73 = .ok (.lstore 4, 2) := by decide +kernel
theorem dX4_reckons_75 : decode cX4_reckons 75 = .ok (.aload_n 0, 1) := by decide +kernel
theorem dX4_reckons_76 : decode cX4_reckons 76 = .ok (.invokevirtual 153, 3) := by decide +kernel
theorem dX4_reckons_79 : decode cX4_reckons 79 = .ok (.lstore 6, 2) := by decide +kernel
theorem dX4_reckons_81 : decode cX4_reckons 81 = .ok (.aload_n 0, 1) := by decide +kernel
theorem dX4_reckons_82 : decode cX4_reckons 82 = .ok (.lload 6, 2) := by decide +kernel
theorem dX4_reckons_84 : decode cX4_reckons 84 = .ok (.lload 4, 2) := by decide +kernel
theorem dX4_reckons_86 : decode cX4_reckons 86 = .ok (.lcmp, 1) := by decide +kernel
theorem dX4_reckons_87 : decode cX4_reckons 87 = .ok (.ifCond .ge 7, 3) := by decide +kernel
theorem dX4_reckons_90 : decode cX4_reckons 90 = .ok (.lconst 1, 1) := by decide +kernel
theorem dX4_reckons_91 : decode cX4_reckons 91 = .ok (.goto 4, 3) := by decide +kernel
theorem dX4_reckons_94 : decode cX4_reckons 94 = .ok (.lconst 0, 1) := by decide +kernel
theorem dX4_reckons_95 : decode cX4_reckons 95 = .ok (.invokevirtual 112, 3) := by decide +kernel
theorem dX4_reckons_98 : decode cX4_reckons 98 = .ok (.iconst 0, 1) := by decide +kernel
theorem dX4_reckons_99 : decode cX4_reckons 99 = .ok (.ireturn, 1) := by decide +kernel
theorem dX4_relatesInts_0 : decode cX4_relatesInts 0 = .ok (.aload_n 0, 1) := by decide +kernel
theorem dX4_relatesInts_1 : decode cX4_relatesInts 1 = .ok (.invokevirtual 162, 3) := by decide +kernel
theorem dX4_relatesInts_4 : decode cX4_relatesInts 4 = .ok (.istore_n 2, 1) := by decide +kernel
theorem dX4_relatesInts_5 : decode cX4_relatesInts 5 = .ok (.aload_n 0, 1) := by decide +kernel
theorem dX4_relatesInts_6 : decode cX4_relatesInts 6 = .ok (.invokevirtual 162, 3) := by decide +kernel
theorem dX4_relatesInts_9 : decode cX4_relatesInts 9 = .ok (.istore_n 3, 1) := by decide +kernel
theorem dX4_relatesInts_10 : decode cX4_relatesInts 10 = .ok (.iload_n 1, 1) := by decide +kernel
theorem dX4_relatesInts_11 : decode cX4_relatesInts 11 = .ok (.iconst 3, 1) := by decide +kernel
theorem dX4_relatesInts_12 : decode cX4_relatesInts 12 = .ok (.if_icmp .lt 10, 3) := by decide +kernel
theorem dX4_relatesInts_15 : decode cX4_relatesInts 15 = .ok (.iload_n 2, 1) := by decide +kernel
theorem dX4_relatesInts_16 : decode cX4_relatesInts 16 = .ok (.ifCond .ne 6, 3) := by decide +kernel
theorem dX4_relatesInts_19 : decode cX4_relatesInts 19 = .ok (.bipush 6, 2) := by decide +kernel
theorem dX4_relatesInts_21 : decode cX4_relatesInts 21 = .ok (.ireturn, 1) := by decide +kernel
theorem dX4_relatesInts_22 : decode cX4_relatesInts 22 = .ok (.aload_n 0, 1) := by decide +kernel
theorem dX4_relatesInts_23 : decode cX4_relatesInts 23 = .ok (.iload_n 1, 1) := by decide +kernel
theorem dX4_relatesInts_24 : decode cX4_relatesInts 24 = .ok (.iload_n 3, 1) := by decide +kernel
theorem dX4_relatesInts_25 : decode cX4_relatesInts 25 = .ok (.i2l, 1) := by decide +kernel
theorem dX4_relatesInts_26 : decode cX4_relatesInts 26 = .ok (.iload_n 2, 1) := by decide +kernel
theorem dX4_relatesInts_27 : decode cX4_relatesInts 27 = .ok (.i2l, 1) := by decide +kernel
theorem dX4_relatesInts_28 : decode cX4_relatesInts 28 = .ok (.invokestatic 166, 3) := by decide +kernel
theorem dX4_relatesInts_31 : decode cX4_relatesInts 31 = .ok (.l2i, 1) := by decide +kernel
theorem dX4_relatesInts_32 : decode cX4_relatesInts 32 = .ok (.i2l, 1) := by decide +kernel
theorem dX4_relatesInts_33 : decode cX4_relatesInts 33 = .ok (.invokevirtual 112, 3) := by decide +kernel
theorem dX4_relatesInts_36 : decode cX4_relatesInts 36 = .ok (.iconst 0, 1) := by decide +kernel
theorem dX4_relatesInts_37 : decode cX4_relatesInts 37 = .ok (.ireturn, 1) := by decide +kernel
theorem dX4_relatesLongs_0 : decode cX4_relatesLongs 0 = .ok (.aload_n 0, 1) := by decide +kernel
theorem dX4_relatesLongs_1 : decode cX4_relatesLongs 1 = .ok (.invokevirtual 153, 3) := by decide +kernel
theorem dX4_relatesLongs_4 : decode cX4_relatesLongs 4 = .ok (.lstore_n 2, 1) := by decide +kernel
theorem dX4_relatesLongs_5 : decode cX4_relatesLongs 5 = .ok (.aload_n 0, 1) := by decide +kernel
theorem dX4_relatesLongs_6 : decode cX4_relatesLongs 6 = .ok (.invokevirtual 153, 3) := by decide +kernel
theorem dX4_relatesLongs_9 : decode cX4_relatesLongs 9 = .ok (.lstore 4, 2) := by decide +kernel
theorem dX4_relatesLongs_11 : decode cX4_relatesLongs 11 = .ok (.iload_n 1, 1) := by decide +kernel
theorem dX4_relatesLongs_12 : decode cX4_relatesLongs 12 = .ok (.iconst 3, 1) := by decide +kernel
theorem dX4_relatesLongs_13 : decode cX4_relatesLongs 13 = .ok (.if_icmp .lt 12, 3) := by decide +kernel
theorem dX4_relatesLongs_16 : decode cX4_relatesLongs 16 = .ok (.lload_n 2, 1) := by decide +kernel
theorem dX4_relatesLongs_17 : decode cX4_relatesLongs 17 = .ok (.lconst 0, 1) := by decide +kernel
theorem dX4_relatesLongs_18 : decode cX4_relatesLongs 18 = .ok (.lcmp, 1) := by decide +kernel
theorem dX4_relatesLongs_19 : decode cX4_relatesLongs 19 = .ok (.ifCond .ne 6, 3) := by decide +kernel
theorem dX4_relatesLongs_22 : decode cX4_relatesLongs 22 = .ok (.bipush 6, 2) := by decide +kernel
theorem dX4_relatesLongs_24 : decode cX4_relatesLongs 24 = .ok (.ireturn, 1) := by decide +kernel
theorem dX4_relatesLongs_25 : decode cX4_relatesLongs 25 = .ok (.aload_n 0, 1) := by decide +kernel
theorem dX4_relatesLongs_26 : decode cX4_relatesLongs 26 = .ok (.iload_n 1, 1) := by decide +kernel
theorem dX4_relatesLongs_27 : decode cX4_relatesLongs 27 = .ok (.lload 4, 2) := by decide +kernel
theorem dX4_relatesLongs_29 : decode cX4_relatesLongs 29 = .ok (.lload_n 2, 1) := by decide +kernel
theorem dX4_relatesLongs_30 : decode cX4_relatesLongs 30 = .ok (.invokestatic 166, 3) := by decide +kernel
theorem dX4_relatesLongs_33 : decode cX4_relatesLongs 33 = .ok (.invokevirtual 148, 3) := by decide +kernel
theorem dX4_relatesLongs_36 : decode cX4_relatesLongs 36 = .ok (.iconst 0, 1) := by decide +kernel
theorem dX4_relatesLongs_37 : decode cX4_relatesLongs 37 = .ok (.ireturn, 1) := by decide +kernel
theorem dX4_related_0 : decode cX4_related 0 = .ok (.iload_n 0, 1) := by decide +kernel
theorem dX4_related_1 : decode cX4_related 1 = .ok (.tableswitch 57 0 3 #[31, 35, 39, 43], 31) := by decide +kernel
theorem dX4_related_32 : decode cX4_related 32 = .ok (.lload_n 1, 1) := by decide +kernel
theorem dX4_related_33 : decode cX4_related 33 = .ok (.lload_n 3, 1) := by decide +kernel
theorem dX4_related_34 : decode cX4_related 34 = .ok (.ladd, 1) := by decide +kernel
theorem dX4_related_35 : decode cX4_related 35 = .ok (.lreturn, 1) := by decide +kernel
theorem dX4_related_36 : decode cX4_related 36 = .ok (.lload_n 1, 1) := by decide +kernel
theorem dX4_related_37 : decode cX4_related 37 = .ok (.lload_n 3, 1) := by decide +kernel
theorem dX4_related_38 : decode cX4_related 38 = .ok (.lsub, 1) := by decide +kernel
theorem dX4_related_39 : decode cX4_related 39 = .ok (.lreturn, 1) := by decide +kernel
theorem dX4_related_40 : decode cX4_related 40 = .ok (.lload_n 1, 1) := by decide +kernel
theorem dX4_related_41 : decode cX4_related 41 = .ok (.lload_n 3, 1) := by decide +kernel
theorem dX4_related_42 : decode cX4_related 42 = .ok (.lmul, 1) := by decide +kernel
theorem dX4_related_43 : decode cX4_related 43 = .ok (.lreturn, 1) := by decide +kernel
theorem dX4_related_44 : decode cX4_related 44 = .ok (.lload_n 3, 1) := by decide +kernel
theorem dX4_related_45 : decode cX4_related 45 = .ok (.lconst 0, 1) := by decide +kernel
theorem dX4_related_46 : decode cX4_related 46 = .ok (.lcmp, 1) := by decide +kernel
theorem dX4_related_47 : decode cX4_related 47 = .ok (.ifCond .ne 7, 3) := by decide +kernel
theorem dX4_related_50 : decode cX4_related 50 = .ok (.lconst 0, 1) := by decide +kernel
theorem dX4_related_51 : decode cX4_related 51 = .ok (.goto 6, 3) := by decide +kernel
theorem dX4_related_54 : decode cX4_related 54 = .ok (.lload_n 1, 1) := by decide +kernel
theorem dX4_related_55 : decode cX4_related 55 = .ok (.lload_n 3, 1) := by decide +kernel
theorem dX4_related_56 : decode cX4_related 56 = .ok (.ldiv, 1) := by decide +kernel
theorem dX4_related_57 : decode cX4_related 57 = .ok (.lreturn, 1) := by decide +kernel
theorem dX4_related_58 : decode cX4_related 58 = .ok (.lload_n 3, 1) := by decide +kernel
theorem dX4_related_59 : decode cX4_related 59 = .ok (.lconst 0, 1) := by decide +kernel
theorem dX4_related_60 : decode cX4_related 60 = .ok (.lcmp, 1) := by decide +kernel
theorem dX4_related_61 : decode cX4_related 61 = .ok (.ifCond .ne 7, 3) := by decide +kernel
theorem dX4_related_64 : decode cX4_related 64 = .ok (.lconst 0, 1) := by decide +kernel
theorem dX4_related_65 : decode cX4_related 65 = .ok (.goto 6, 3) := by decide +kernel
theorem dX4_related_68 : decode cX4_related 68 = .ok (.lload_n 1, 1) := by decide +kernel
theorem dX4_related_69 : decode cX4_related 69 = .ok (.lload_n 3, 1) := by decide +kernel
theorem dX4_related_70 : decode cX4_related 70 = .ok (.lrem, 1) := by decide +kernel
theorem dX4_related_71 : decode cX4_related 71 = .ok (.lreturn, 1) := by decide +kernel
theorem dX4_makes_0 : decode cX4_makes 0 = .ok (.iload_n 1, 1) := by decide +kernel
theorem dX4_makes_1 : decode cX4_makes 1 = .ok (.tableswitch 55 12 14 #[27, 38, 45], 27) := by decide +kernel
theorem dX4_makes_28 : decode cX4_makes 28 = .ok (.aload_n 0, 1) := by decide +kernel
theorem dX4_makes_29 : decode cX4_makes 29 = .ok (.bipush 10, 2) := by decide +kernel
theorem dX4_makes_31 : decode cX4_makes 31 = .ok (.lload_n 2, 1) := by decide +kernel
theorem dX4_makes_32 : decode cX4_makes 32 = .ok (.l2i, 1) := by decide +kernel
theorem dX4_makes_33 : decode cX4_makes 33 = .ok (.iadd, 1) := by decide +kernel
theorem dX4_makes_34 : decode cX4_makes 34 = .ok (.iconst 0, 1) := by decide +kernel
theorem dX4_makes_35 : decode cX4_makes 35 = .ok (.invokevirtual 172, 3) := by decide +kernel
theorem dX4_makes_38 : decode cX4_makes 38 = .ok (.ireturn, 1) := by decide +kernel
theorem dX4_makes_39 : decode cX4_makes 39 = .ok (.aload_n 0, 1) := by decide +kernel
theorem dX4_makes_40 : decode cX4_makes 40 = .ok (.invokevirtual 116, 3) := by decide +kernel
theorem dX4_makes_43 : decode cX4_makes 43 = .ok (.pop2, 1) := by decide +kernel
theorem dX4_makes_44 : decode cX4_makes 44 = .ok (.iconst 0, 1) := by decide +kernel
theorem dX4_makes_45 : decode cX4_makes 45 = .ok (.ireturn, 1) := by decide +kernel
theorem dX4_makes_46 : decode cX4_makes 46 = .ok (.aload_n 0, 1) := by decide +kernel
theorem dX4_makes_47 : decode cX4_makes 47 = .ok (.iconst 5, 1) := by decide +kernel
theorem dX4_makes_48 : decode cX4_makes 48 = .ok (.aload_n 0, 1) := by decide +kernel
theorem dX4_makes_49 : decode cX4_makes 49 = .ok (.invokevirtual 162, 3) := by decide +kernel
theorem dX4_makes_52 : decode cX4_makes 52 = .ok (.invokevirtual 172, 3) := by decide +kernel
theorem dX4_makes_55 : decode cX4_makes 55 = .ok (.ireturn, 1) := by decide +kernel
theorem dX4_makes_56 : decode cX4_makes 56 = .ok (.aload_n 0, 1) := by decide +kernel
theorem dX4_makes_57 : decode cX4_makes 57 = .ok (.bipush 20, 2) := by decide +kernel
theorem dX4_makes_59 : decode cX4_makes 59 = .ok (.lload_n 2, 1) := by decide +kernel
theorem dX4_makes_60 : decode cX4_makes 60 = .ok (.l2i, 1) := by decide +kernel
theorem dX4_makes_61 : decode cX4_makes 61 = .ok (.iadd, 1) := by decide +kernel
theorem dX4_makes_62 : decode cX4_makes 62 = .ok (.aload_n 0, 1) := by decide +kernel
theorem dX4_makes_63 : decode cX4_makes 63 = .ok (.invokevirtual 162, 3) := by decide +kernel
theorem dX4_makes_66 : decode cX4_makes 66 = .ok (.invokevirtual 172, 3) := by decide +kernel
theorem dX4_makes_69 : decode cX4_makes 69 = .ok (.ireturn, 1) := by decide +kernel
theorem dX4_pushNew_0 : decode cX4_pushNew 0 = .ok (.iload_n 2, 1) := by decide +kernel
theorem dX4_pushNew_1 : decode cX4_pushNew 1 = .ok (.ifCond .ge 5, 3) := by decide +kernel
theorem dX4_pushNew_4 : decode cX4_pushNew 4 = .ok (.iconst 5, 1) := by decide +kernel
theorem dX4_pushNew_5 : decode cX4_pushNew 5 = .ok (.ireturn, 1) := by decide +kernel
theorem dX4_pushNew_6 : decode cX4_pushNew 6 = .ok (.aload_n 0, 1) := by decide +kernel
theorem dX4_pushNew_7 : decode cX4_pushNew 7 = .ok (.getfield 14, 3) := by decide +kernel
theorem dX4_pushNew_10 : decode cX4_pushNew 10 = .ok (.iload_n 1, 1) := by decide +kernel
theorem dX4_pushNew_11 : decode cX4_pushNew 11 = .ok (.iload_n 2, 1) := by decide +kernel
theorem dX4_pushNew_12 : decode cX4_pushNew 12 = .ok (.invokevirtual 175, 3) := by decide +kernel
theorem dX4_pushNew_15 : decode cX4_pushNew 15 = .ok (.istore_n 3, 1) := by decide +kernel
theorem dX4_pushNew_16 : decode cX4_pushNew 16 = .ok (.iload_n 3, 1) := by decide +kernel
theorem dX4_pushNew_17 : decode cX4_pushNew 17 = .ok (.ifCond .ne 12, 3) := by decide +kernel
theorem dX4_pushNew_20 : decode cX4_pushNew 20 = .ok (.aload_n 0, 1) := by decide +kernel
theorem dX4_pushNew_21 : decode cX4_pushNew 21 = .ok (.bipush 9, 2) := by decide +kernel
theorem dX4_pushNew_23 : decode cX4_pushNew 23 = .ok (.iconst 0, 1) := by decide +kernel
theorem dX4_pushNew_24 : decode cX4_pushNew 24 = .ok (.invokevirtual 100, 3) := by decide +kernel
theorem dX4_pushNew_27 : decode cX4_pushNew 27 = .ok (.iconst (-1), 1) := by decide +kernel
theorem dX4_pushNew_28 : decode cX4_pushNew 28 = .ok (.ireturn, 1) := by decide +kernel
theorem dX4_pushNew_29 : decode cX4_pushNew 29 = .ok (.aload_n 0, 1) := by decide +kernel
theorem dX4_pushNew_30 : decode cX4_pushNew 30 = .ok (.iload_n 3, 1) := by decide +kernel
theorem dX4_pushNew_31 : decode cX4_pushNew 31 = .ok (.i2l, 1) := by decide +kernel
theorem dX4_pushNew_32 : decode cX4_pushNew 32 = .ok (.invokevirtual 112, 3) := by decide +kernel
theorem dX4_pushNew_35 : decode cX4_pushNew 35 = .ok (.iconst 0, 1) := by decide +kernel
theorem dX4_pushNew_36 : decode cX4_pushNew 36 = .ok (.ireturn, 1) := by decide +kernel
theorem dX4_usesArray_0 : decode cX4_usesArray 0 = .ok (.iload_n 1, 1) := by decide +kernel
theorem dX4_usesArray_1 : decode cX4_usesArray 1 = .ok (.bipush 18, 2) := by decide +kernel
theorem dX4_usesArray_3 : decode cX4_usesArray 3 = .ok (.if_icmp .eq 9, 3) := by decide +kernel
theorem dX4_usesArray_6 : decode cX4_usesArray 6 = .ok (.iload_n 1, 1) := by decide +kernel
theorem dX4_usesArray_7 : decode cX4_usesArray 7 = .ok (.bipush 20, 2) := by decide +kernel
theorem dX4_usesArray_9 : decode cX4_usesArray 9 = .ok (.if_icmp .ne 7, 3) := by decide +kernel
theorem dX4_usesArray_12 : decode cX4_usesArray 12 = .ok (.iconst 1, 1) := by decide +kernel
theorem dX4_usesArray_13 : decode cX4_usesArray 13 = .ok (.goto 4, 3) := by decide +kernel
theorem dX4_usesArray_16 : decode cX4_usesArray 16 = .ok (.iconst 0, 1) := by decide +kernel
theorem dX4_usesArray_17 : decode cX4_usesArray 17 = .ok (.istore_n 2, 1) := by decide +kernel
theorem dX4_usesArray_18 : decode cX4_usesArray 18 = .ok (.iload_n 2, 1) := by decide +kernel
theorem dX4_usesArray_19 : decode cX4_usesArray 19 = .ok (.ifCond .eq 10, 3) := by decide +kernel
theorem dX4_usesArray_22 : decode cX4_usesArray 22 = .ok (.aload_n 0, 1) := by decide +kernel
theorem dX4_usesArray_23 : decode cX4_usesArray 23 = .ok (.invokevirtual 162, 3) := by decide +kernel
theorem dX4_usesArray_26 : decode cX4_usesArray 26 = .ok (.goto 4, 3) := by decide +kernel
theorem dX4_usesArray_29 : decode cX4_usesArray 29 = .ok (.iconst 0, 1) := by decide +kernel
theorem dX4_usesArray_30 : decode cX4_usesArray 30 = .ok (.istore_n 3, 1) := by decide +kernel
theorem dX4_usesArray_31 : decode cX4_usesArray 31 = .ok (.iload_n 1, 1) := by decide +kernel
theorem dX4_usesArray_32 : decode cX4_usesArray 32 = .ok (.bipush 16, 2) := by decide +kernel
theorem dX4_usesArray_34 : decode cX4_usesArray 34 = .ok (.if_icmp .ne 7, 3) := by decide +kernel
theorem dX4_usesArray_37 : decode cX4_usesArray 37 = .ok (.iconst 0, 1) := by decide +kernel
theorem dX4_usesArray_38 : decode cX4_usesArray 38 = .ok (.goto 7, 3) := by decide +kernel
theorem dX4_usesArray_41 : decode cX4_usesArray 41 = .ok (.aload_n 0, 1) := by decide +kernel
theorem dX4_usesArray_42 : decode cX4_usesArray 42 = .ok (.invokevirtual 162, 3) := by decide +kernel
theorem dX4_usesArray_45 : decode cX4_usesArray 45 = .ok (.istore 4, 2) := by decide +kernel
theorem dX4_usesArray_47 : decode cX4_usesArray 47 = .ok (.aload_n 0, 1) := by decide +kernel
theorem dX4_usesArray_48 : decode cX4_usesArray 48 = .ok (.invokevirtual 162, 3) := by decide +kernel
theorem dX4_usesArray_51 : decode cX4_usesArray 51 = .ok (.istore 5, 2) := by decide +kernel
theorem dX4_usesArray_53 : decode cX4_usesArray 53 = .ok (.aload_n 0, 1) := by decide +kernel
theorem dX4_usesArray_54 : decode cX4_usesArray 54 = .ok (.getfield 14, 3) := by decide +kernel
theorem dX4_usesArray_57 : decode cX4_usesArray 57 = .ok (.iload 5, 2) := by decide +kernel
theorem dX4_usesArray_59 : decode cX4_usesArray 59 = .ok (.invokevirtual 178, 3) := by decide +kernel
theorem dX4_usesArray_62 : decode cX4_usesArray 62 = .ok (.ifCond .eq 5, 3) := by decide +kernel
theorem dX4_usesArray_65 : decode cX4_usesArray 65 = .ok (.iconst 1, 1) := by decide +kernel
theorem dX4_usesArray_66 : decode cX4_usesArray 66 = .ok (.ireturn, 1) := by decide +kernel
theorem dX4_usesArray_67 : decode cX4_usesArray 67 = .ok (.iload_n 1, 1) := by decide +kernel
theorem dX4_usesArray_68 : decode cX4_usesArray 68 = .ok (.bipush 16, 2) := by decide +kernel
theorem dX4_usesArray_70 : decode cX4_usesArray 70 = .ok (.if_icmp .ne 19, 3) := by decide +kernel
theorem dX4_usesArray_73 : decode cX4_usesArray 73 = .ok (.aload_n 0, 1) := by decide +kernel
theorem dX4_usesArray_74 : decode cX4_usesArray 74 = .ok (.aload_n 0, 1) := by decide +kernel
theorem dX4_usesArray_75 : decode cX4_usesArray 75 = .ok (.getfield 14, 3) := by decide +kernel
theorem dX4_usesArray_78 : decode cX4_usesArray 78 = .ok (.iload 5, 2) := by decide +kernel
theorem dX4_usesArray_80 : decode cX4_usesArray 80 = .ok (.invokevirtual 182, 3) := by decide +kernel
theorem dX4_usesArray_83 : decode cX4_usesArray 83 = .ok (.i2l, 1) := by decide +kernel
theorem dX4_usesArray_84 : decode cX4_usesArray 84 = .ok (.invokevirtual 112, 3) := by decide +kernel
theorem dX4_usesArray_87 : decode cX4_usesArray 87 = .ok (.iconst 0, 1) := by decide +kernel
theorem dX4_usesArray_88 : decode cX4_usesArray 88 = .ok (.ireturn, 1) := by decide +kernel
theorem dX4_usesArray_89 : decode cX4_usesArray 89 = .ok (.aload_n 0, 1) := by decide +kernel
theorem dX4_usesArray_90 : decode cX4_usesArray 90 = .ok (.getfield 14, 3) := by decide +kernel
theorem dX4_usesArray_93 : decode cX4_usesArray 93 = .ok (.iload 5, 2) := by decide +kernel
theorem dX4_usesArray_95 : decode cX4_usesArray 95 = .ok (.iload 4, 2) := by decide +kernel
theorem dX4_usesArray_97 : decode cX4_usesArray 97 = .ok (.invokevirtual 185, 3) := by decide +kernel
theorem dX4_usesArray_100 : decode cX4_usesArray 100 = .ok (.ifCond .ne 5, 3) := by decide +kernel
theorem dX4_usesArray_103 : decode cX4_usesArray 103 = .ok (.iconst 2, 1) := by decide +kernel
theorem dX4_usesArray_104 : decode cX4_usesArray 104 = .ok (.ireturn, 1) := by decide +kernel
theorem dX4_usesArray_105 : decode cX4_usesArray 105 = .ok (.iload_n 1, 1) := by decide +kernel
theorem dX4_usesArray_106 : decode cX4_usesArray 106 = .ok (.bipush 20, 2) := by decide +kernel
theorem dX4_usesArray_108 : decode cX4_usesArray 108 = .ok (.if_icmp .ne 18, 3) := by decide +kernel
theorem dX4_usesArray_111 : decode cX4_usesArray 111 = .ok (.aload_n 0, 1) := by decide +kernel
theorem dX4_usesArray_112 : decode cX4_usesArray 112 = .ok (.getfield 14, 3) := by decide +kernel
theorem dX4_usesArray_115 : decode cX4_usesArray 115 = .ok (.iload 5, 2) := by decide +kernel
theorem dX4_usesArray_117 : decode cX4_usesArray 117 = .ok (.iload_n 3, 1) := by decide +kernel
theorem dX4_usesArray_118 : decode cX4_usesArray 118 = .ok (.invokevirtual 189, 3) := by decide +kernel
theorem dX4_usesArray_121 : decode cX4_usesArray 121 = .ok (.ifCond .ne 5, 3) := by decide +kernel
theorem dX4_usesArray_124 : decode cX4_usesArray 124 = .ok (.iconst 3, 1) := by decide +kernel
theorem dX4_usesArray_125 : decode cX4_usesArray 125 = .ok (.ireturn, 1) := by decide +kernel
theorem dX4_usesArray_126 : decode cX4_usesArray 126 = .ok (.iload_n 2, 1) := by decide +kernel
theorem dX4_usesArray_127 : decode cX4_usesArray 127 = .ok (.ifCond .eq 18, 3) := by decide +kernel
theorem dX4_usesArray_130 : decode cX4_usesArray 130 = .ok (.aload_n 0, 1) := by decide +kernel
theorem dX4_usesArray_131 : decode cX4_usesArray 131 = .ok (.getfield 14, 3) := by decide +kernel
theorem dX4_usesArray_134 : decode cX4_usesArray 134 = .ok (.iload 5, 2) := by decide +kernel
theorem dX4_usesArray_136 : decode cX4_usesArray 136 = .ok (.iload 4, 2) := by decide +kernel
theorem dX4_usesArray_138 : decode cX4_usesArray 138 = .ok (.iload_n 3, 1) := by decide +kernel
theorem dX4_usesArray_139 : decode cX4_usesArray 139 = .ok (.invokevirtual 192, 3) := by decide +kernel
theorem dX4_usesArray_142 : decode cX4_usesArray 142 = .ok (.goto 19, 3) := by decide +kernel
theorem dX4_usesArray_145 : decode cX4_usesArray 145 = .ok (.aload_n 0, 1) := by decide +kernel
theorem dX4_usesArray_146 : decode cX4_usesArray 146 = .ok (.aload_n 0, 1) := by decide +kernel
theorem dX4_usesArray_147 : decode cX4_usesArray 147 = .ok (.getfield 14, 3) := by decide +kernel
theorem dX4_usesArray_150 : decode cX4_usesArray 150 = .ok (.iload 5, 2) := by decide +kernel
theorem dX4_usesArray_152 : decode cX4_usesArray 152 = .ok (.iload 4, 2) := by decide +kernel
theorem dX4_usesArray_154 : decode cX4_usesArray 154 = .ok (.invokevirtual 196, 3) := by decide +kernel
theorem dX4_usesArray_157 : decode cX4_usesArray 157 = .ok (.i2l, 1) := by decide +kernel
theorem dX4_usesArray_158 : decode cX4_usesArray 158 = .ok (.invokevirtual 112, 3) := by decide +kernel
theorem dX4_usesArray_161 : decode cX4_usesArray 161 = .ok (.iconst 0, 1) := by decide +kernel
theorem dX4_usesArray_162 : decode cX4_usesArray 162 = .ok (.ireturn, 1) := by decide +kernel
theorem dX4_asks_0 : decode cX4_asks 0 = .ok (.aload_n 0, 1) := by decide +kernel
theorem dX4_asks_1 : decode cX4_asks 1 = .ok (.invokevirtual 162, 3) := by decide +kernel
theorem dX4_asks_4 : decode cX4_asks 4 = .ok (.istore_n 3, 1) := by decide +kernel
theorem dX4_asks_5 : decode cX4_asks 5 = .ok (.aload_n 0, 1) := by decide +kernel
theorem dX4_asks_6 : decode cX4_asks 6 = .ok (.getfield 14, 3) := by decide +kernel
theorem dX4_asks_9 : decode cX4_asks 9 = .ok (.iload_n 3, 1) := by decide +kernel
theorem dX4_asks_10 : decode cX4_asks 10 = .ok (.iload_n 2, 1) := by decide +kernel
theorem dX4_asks_11 : decode cX4_asks 11 = .ok (.invokevirtual 199, 3) := by decide +kernel
theorem dX4_asks_14 : decode cX4_asks 14 = .ok (.istore 4, 2) := by decide +kernel
theorem dX4_asks_16 : decode cX4_asks 16 = .ok (.iload_n 1, 1) := by decide +kernel
theorem dX4_asks_17 : decode cX4_asks 17 = .ok (.bipush 22, 2) := by decide +kernel
theorem dX4_asks_19 : decode cX4_asks 19 = .ok (.if_icmp .ne 19, 3) := by decide +kernel
theorem dX4_asks_22 : decode cX4_asks 22 = .ok (.aload_n 0, 1) := by decide +kernel
theorem dX4_asks_23 : decode cX4_asks 23 = .ok (.iload 4, 2) := by decide +kernel
theorem dX4_asks_25 : decode cX4_asks 25 = .ok (.ifCond .eq 7, 3) := by decide +kernel
theorem dX4_asks_28 : decode cX4_asks 28 = .ok (.lconst 1, 1) := by decide +kernel
