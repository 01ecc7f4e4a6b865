theorem dX10_method_66 : decode cX10_method 66 = .ok (.dup, 1) := by decide +kernel
theorem dX10_method_67 : decode cX10_method 67 = .ok (.getfield 75, 3) := by decide +kernel
theorem dX10_method_70 : decode cX10_method 70 = .ok (.iconst 1, 1) := by decide +kernel
theorem dX10_method_71 : decode cX10_method 71 = .ok (.iadd, 1) := by decide +kernel
theorem dX10_method_72 : decode cX10_method 72 = .ok (.putfield 75, 3) := by decide +kernel
theorem dX10_method_75 : decode cX10_method 75 = .ok (.aload_n 0, 1) := by decide +kernel
theorem dX10_method_76 : decode cX10_method 76 = .ok (.getfield 75, 3) := by decide +kernel
theorem dX10_method_79 : decode cX10_method 79 = .ok (.iconst 1, 1) := by decide +kernel
theorem dX10_method_80 : decode cX10_method 80 = .ok (.isub, 1) := by decide +kernel
theorem dX10_method_81 : decode cX10_method 81 = .ok (.ireturn, 1) := by decide +kernel
theorem dX10_changed_0 : decode cX10_changed 0 = .ok (.aload_n 0, 1) := by decide +kernel
theorem dX10_changed_1 : decode cX10_changed 1 = .ok (.getfield 35, 3) := by decide +kernel
theorem dX10_changed_4 : decode cX10_changed 4 = .ok (.iload_n 1, 1) := by decide +kernel
theorem dX10_changed_5 : decode cX10_changed 5 = .ok (.iconst 0, 1) := by decide +kernel
theorem dX10_changed_6 : decode cX10_changed 6 = .ok (.bastore, 1) := by decide +kernel
theorem dX10_changed_7 : decode cX10_changed 7 = .ok (.return_, 1) := by decide +kernel
theorem dX10_op_0 : decode cX10_op 0 = .ok (.aload_n 0, 1) := by decide +kernel
theorem dX10_op_1 : decode cX10_op 1 = .ok (.iload_n 1, 1) := by decide +kernel
theorem dX10_op_2 : decode cX10_op 2 = .ok (.invokevirtual 130, 3) := by decide +kernel
theorem dX10_op_5 : decode cX10_op 5 = .ok (.ifCond .ne 5, 3) := by decide +kernel
theorem dX10_op_8 : decode cX10_op 8 = .ok (.iconst (-1), 1) := by decide +kernel
theorem dX10_op_9 : decode cX10_op 9 = .ok (.ireturn, 1) := by decide +kernel
theorem dX10_op_10 : decode cX10_op 10 = .ok (.aload_n 0, 1) := by decide +kernel
theorem dX10_op_11 : decode cX10_op 11 = .ok (.getfield 13, 3) := by decide +kernel
theorem dX10_op_14 : decode cX10_op 14 = .ok (.iload_n 1, 1) := by decide +kernel
theorem dX10_op_15 : decode cX10_op 15 = .ok (.iaload, 1) := by decide +kernel
theorem dX10_op_16 : decode cX10_op 16 = .ok (.bipush 40, 2) := by decide +kernel
theorem dX10_op_18 : decode cX10_op 18 = .ok (.if_icmp .ne 6, 3) := by decide +kernel
theorem dX10_op_21 : decode cX10_op 21 = .ok (.bipush (-3), 2) := by decide +kernel
theorem dX10_op_23 : decode cX10_op 23 = .ok (.ireturn, 1) := by decide +kernel
theorem dX10_op_24 : decode cX10_op 24 = .ok (.aload_n 0, 1) := by decide +kernel
theorem dX10_op_25 : decode cX10_op 25 = .ok (.getfield 16, 3) := by decide +kernel
theorem dX10_op_28 : decode cX10_op 28 = .ok (.bipush 40, 2) := by decide +kernel
theorem dX10_op_30 : decode cX10_op 30 = .ok (.iload_n 1, 1) := by decide +kernel
theorem dX10_op_31 : decode cX10_op 31 = .ok (.imul, 1) := by decide +kernel
theorem dX10_op_32 : decode cX10_op 32 = .ok (.aload_n 0, 1) := by decide +kernel
theorem dX10_op_33 : decode cX10_op 33 = .ok (.getfield 13, 3) := by decide +kernel
theorem dX10_op_36 : decode cX10_op 36 = .ok (.iload_n 1, 1) := by decide +kernel
theorem dX10_op_37 : decode cX10_op 37 = .ok (.iaload, 1) := by decide +kernel
theorem dX10_op_38 : decode cX10_op 38 = .ok (.iadd, 1) := by decide +kernel
theorem dX10_op_39 : decode cX10_op 39 = .ok (.iload_n 2, 1) := by decide +kernel
theorem dX10_op_40 : decode cX10_op 40 = .ok (.iastore, 1) := by decide +kernel
theorem dX10_op_41 : decode cX10_op 41 = .ok (.aload_n 0, 1) := by decide +kernel
theorem dX10_op_42 : decode cX10_op 42 = .ok (.getfield 19, 3) := by decide +kernel
theorem dX10_op_45 : decode cX10_op 45 = .ok (.bipush 40, 2) := by decide +kernel
theorem dX10_op_47 : decode cX10_op 47 = .ok (.iload_n 1, 1) := by decide +kernel
theorem dX10_op_48 : decode cX10_op 48 = .ok (.imul, 1) := by decide +kernel
theorem dX10_op_49 : decode cX10_op 49 = .ok (.aload_n 0, 1) := by decide +kernel
theorem dX10_op_50 : decode cX10_op 50 = .ok (.getfield 13, 3) := by decide +kernel
theorem dX10_op_53 : decode cX10_op 53 = .ok (.iload_n 1, 1) := by decide +kernel
theorem dX10_op_54 : decode cX10_op 54 = .ok (.iaload, 1) := by decide +kernel
theorem dX10_op_55 : decode cX10_op 55 = .ok (.iadd, 1) := by decide +kernel
theorem dX10_op_56 : decode cX10_op 56 = .ok (.lload_n 3, 1) := by decide +kernel
theorem dX10_op_57 : decode cX10_op 57 = .ok (.lastore, 1) := by decide +kernel
theorem dX10_op_58 : decode cX10_op 58 = .ok (.aload_n 0, 1) := by decide +kernel
theorem dX10_op_59 : decode cX10_op 59 = .ok (.getfield 13, 3) := by decide +kernel
theorem dX10_op_62 : decode cX10_op 62 = .ok (.iload_n 1, 1) := by decide +kernel
theorem dX10_op_63 : decode cX10_op 63 = .ok (.dup2, 1) := by decide +kernel
theorem dX10_op_64 : decode cX10_op 64 = .ok (.iaload, 1) := by decide +kernel
theorem dX10_op_65 : decode cX10_op 65 = .ok (.iconst 1, 1) := by decide +kernel
theorem dX10_op_66 : decode cX10_op 66 = .ok (.iadd, 1) := by decide +kernel
theorem dX10_op_67 : decode cX10_op 67 = .ok (.iastore, 1) := by decide +kernel
theorem dX10_op_68 : decode cX10_op 68 = .ok (.aload_n 0, 1) := by decide +kernel
theorem dX10_op_69 : decode cX10_op 69 = .ok (.iload_n 1, 1) := by decide +kernel
theorem dX10_op_70 : decode cX10_op 70 = .ok (.invokevirtual 133, 3) := by decide +kernel
theorem dX10_op_73 : decode cX10_op 73 = .ok (.aload_n 0, 1) := by decide +kernel
theorem dX10_op_74 : decode cX10_op 74 = .ok (.getfield 13, 3) := by decide +kernel
theorem dX10_op_77 : decode cX10_op 77 = .ok (.iload_n 1, 1) := by decide +kernel
theorem dX10_op_78 : decode cX10_op 78 = .ok (.iaload, 1) := by decide +kernel
theorem dX10_op_79 : decode cX10_op 79 = .ok (.iconst 1, 1) := by decide +kernel
theorem dX10_op_80 : decode cX10_op 80 = .ok (.isub, 1) := by decide +kernel
theorem dX10_op_81 : decode cX10_op 81 = .ok (.ireturn, 1) := by decide +kernel
theorem dX10_handler_0 : decode cX10_handler 0 = .ok (.aload_n 0, 1) := by decide +kernel
theorem dX10_handler_1 : decode cX10_handler 1 = .ok (.iload_n 1, 1) := by decide +kernel
theorem dX10_handler_2 : decode cX10_handler 2 = .ok (.invokevirtual 130, 3) := by decide +kernel
theorem dX10_handler_5 : decode cX10_handler 5 = .ok (.ifCond .eq 44, 3) := by decide +kernel
theorem dX10_handler_8 : decode cX10_handler 8 = .ok (.iload_n 2, 1) := by decide +kernel
theorem dX10_handler_9 : decode cX10_handler 9 = .ok (.ifCond .lt 40, 3) := by decide +kernel
theorem dX10_handler_12 : decode cX10_handler 12 = .ok (.iload_n 2, 1) := by decide +kernel
theorem dX10_handler_13 : decode cX10_handler 13 = .ok (.iload_n 3, 1) := by decide +kernel
theorem dX10_handler_14 : decode cX10_handler 14 = .ok (.if_icmp .ge 35, 3) := by decide +kernel
theorem dX10_handler_17 : decode cX10_handler 17 = .ok (.iload_n 3, 1) := by decide +kernel
theorem dX10_handler_18 : decode cX10_handler 18 = .ok (.bipush 40, 2) := by decide +kernel
theorem dX10_handler_20 : decode cX10_handler 20 = .ok (.if_icmp .gt 29, 3) := by decide +kernel
theorem dX10_handler_23 : decode cX10_handler 23 = .ok (.iload 4, 2) := by decide +kernel
theorem dX10_handler_25 : decode cX10_handler 25 = .ok (.i2l, 1) := by decide +kernel
theorem dX10_handler_26 : decode cX10_handler 26 = .ok (.lconst 0, 1) := by decide +kernel
theorem dX10_handler_27 : decode cX10_handler 27 = .ok (.ldc2_w 137, 3) := by decide +kernel
theorem dX10_handler_30 : decode cX10_handler 30 = .ok (.invokestatic 79, 3) := by decide +kernel
theorem dX10_handler_33 : decode cX10_handler 33 = .ok (.ifCond .eq 16, 3) := by decide +kernel
theorem dX10_handler_36 : decode cX10_handler 36 = .ok (.iload 5, 2) := by decide +kernel
theorem dX10_handler_38 : decode cX10_handler 38 = .ok (.i2l, 1) := by decide +kernel
theorem dX10_handler_39 : decode cX10_handler 39 = .ok (.lconst 0, 1) := by decide +kernel
theorem dX10_handler_40 : decode cX10_handler 40 = .ok (.ldc2_w 139, 3) := by decide +kernel
theorem dX10_handler_43 : decode cX10_handler 43 = .ok (.invokestatic 79, 3) := by decide +kernel
theorem dX10_handler_46 : decode cX10_handler 46 = .ok (.ifCond .ne 5, 3) := by decide +kernel
theorem dX10_handler_49 : decode cX10_handler 49 = .ok (.iconst (-1), 1) := by decide +kernel
theorem dX10_handler_50 : decode cX10_handler 50 = .ok (.ireturn, 1) := by decide +kernel
theorem dX10_handler_51 : decode cX10_handler 51 = .ok (.aload_n 0, 1) := by decide +kernel
theorem dX10_handler_52 : decode cX10_handler 52 = .ok (.getfield 23, 3) := by decide +kernel
theorem dX10_handler_55 : decode cX10_handler 55 = .ok (.iload_n 1, 1) := by decide +kernel
theorem dX10_handler_56 : decode cX10_handler 56 = .ok (.iaload, 1) := by decide +kernel
theorem dX10_handler_57 : decode cX10_handler 57 = .ok (.bipush 6, 2) := by decide +kernel
theorem dX10_handler_59 : decode cX10_handler 59 = .ok (.if_icmp .ne 6, 3) := by decide +kernel
theorem dX10_handler_62 : decode cX10_handler 62 = .ok (.bipush (-3), 2) := by decide +kernel
theorem dX10_handler_64 : decode cX10_handler 64 = .ok (.ireturn, 1) := by decide +kernel
theorem dX10_handler_65 : decode cX10_handler 65 = .ok (.iconst 4, 1) := by decide +kernel
theorem dX10_handler_66 : decode cX10_handler 66 = .ok (.bipush 6, 2) := by decide +kernel
theorem dX10_handler_68 : decode cX10_handler 68 = .ok (.iload_n 1, 1) := by decide +kernel
theorem dX10_handler_69 : decode cX10_handler 69 = .ok (.imul, 1) := by decide +kernel
theorem dX10_handler_70 : decode cX10_handler 70 = .ok (.aload_n 0, 1) := by decide +kernel
theorem dX10_handler_71 : decode cX10_handler 71 = .ok (.getfield 23, 3) := by decide +kernel
theorem dX10_handler_74 : decode cX10_handler 74 = .ok (.iload_n 1, 1) := by decide +kernel
theorem dX10_handler_75 : decode cX10_handler 75 = .ok (.iaload, 1) := by decide +kernel
theorem dX10_handler_76 : decode cX10_handler 76 = .ok (.iadd, 1) := by decide +kernel
theorem dX10_handler_77 : decode cX10_handler 77 = .ok (.imul, 1) := by decide +kernel
theorem dX10_handler_78 : decode cX10_handler 78 = .ok (.istore 6, 2) := by decide +kernel
theorem dX10_handler_80 : decode cX10_handler 80 = .ok (.aload_n 0, 1) := by decide +kernel
theorem dX10_handler_81 : decode cX10_handler 81 = .ok (.getfield 26, 3) := by decide +kernel
theorem dX10_handler_84 : decode cX10_handler 84 = .ok (.iload 6, 2) := by decide +kernel
theorem dX10_handler_86 : decode cX10_handler 86 = .ok (.iload_n 2, 1) := by decide +kernel
theorem dX10_handler_87 : decode cX10_handler 87 = .ok (.iastore, 1) := by decide +kernel
theorem dX10_handler_88 : decode cX10_handler 88 = .ok (.aload_n 0, 1) := by decide +kernel
theorem dX10_handler_89 : decode cX10_handler 89 = .ok (.getfield 26, 3) := by decide +kernel
theorem dX10_handler_92 : decode cX10_handler 92 = .ok (.iload 6, 2) := by decide +kernel
theorem dX10_handler_94 : decode cX10_handler 94 = .ok (.iconst 1, 1) := by decide +kernel
theorem dX10_handler_95 : decode cX10_handler 95 = .ok (.iadd, 1) := by decide +kernel
theorem dX10_handler_96 : decode cX10_handler 96 = .ok (.iload_n 3, 1) := by decide +kernel
theorem dX10_handler_97 : decode cX10_handler 97 = .ok (.iastore, 1) := by decide +kernel
theorem dX10_handler_98 : decode cX10_handler 98 = .ok (.aload_n 0, 1) := by decide +kernel
theorem dX10_handler_99 : decode cX10_handler 99 = .ok (.getfield 26, 3) := by decide +kernel
theorem dX10_handler_102 : decode cX10_handler 102 = .ok (.iload 6, 2) := by decide +kernel
theorem dX10_handler_104 : decode cX10_handler 104 = .ok (.iconst 2, 1) := by decide +kernel
theorem dX10_handler_105 : decode cX10_handler 105 = .ok (.iadd, 1) := by decide +kernel
theorem dX10_handler_106 : decode cX10_handler 106 = .ok (.iload 4, 2) := by decide +kernel
theorem dX10_handler_108 : decode cX10_handler 108 = .ok (.iastore, 1) := by decide +kernel
theorem dX10_handler_109 : decode cX10_handler 109 = .ok (.aload_n 0, 1) := by decide +kernel
theorem dX10_handler_110 : decode cX10_handler 110 = .ok (.getfield 26, 3) := by decide +kernel
theorem dX10_handler_113 : decode cX10_handler 113 = .ok (.iload 6, 2) := by decide +kernel
theorem dX10_handler_115 : decode cX10_handler 115 = .ok (.iconst 3, 1) := by decide +kernel
theorem dX10_handler_116 : decode cX10_handler 116 = .ok (.iadd, 1) := by decide +kernel
theorem dX10_handler_117 : decode cX10_handler 117 = .ok (.iload 5, 2) := by decide +kernel
theorem dX10_handler_119 : decode cX10_handler 119 = .ok (.iastore, 1) := by decide +kernel
theorem dX10_handler_120 : decode cX10_handler 120 = .ok (.aload_n 0, 1) := by decide +kernel
theorem dX10_handler_121 : decode cX10_handler 121 = .ok (.getfield 23, 3) := by decide +kernel
theorem dX10_handler_124 : decode cX10_handler 124 = .ok (.iload_n 1, 1) := by decide +kernel
theorem dX10_handler_125 : decode cX10_handler 125 = .ok (.dup2, 1) := by decide +kernel
theorem dX10_handler_126 : decode cX10_handler 126 = .ok (.iaload, 1) := by decide +kernel
theorem dX10_handler_127 : decode cX10_handler 127 = .ok (.iconst 1, 1) := by decide +kernel
theorem dX10_handler_128 : decode cX10_handler 128 = .ok (.iadd, 1) := by decide +kernel
theorem dX10_handler_129 : decode cX10_handler 129 = .ok (.iastore, 1) := by decide +kernel
theorem dX10_handler_130 : decode cX10_handler 130 = .ok (.aload_n 0, 1) := by decide +kernel
theorem dX10_handler_131 : decode cX10_handler 131 = .ok (.iload_n 1, 1) := by decide +kernel
theorem dX10_handler_132 : decode cX10_handler 132 = .ok (.invokevirtual 133, 3) := by decide +kernel
theorem dX10_handler_135 : decode cX10_handler 135 = .ok (.aload_n 0, 1) := by decide +kernel
theorem dX10_handler_136 : decode cX10_handler 136 = .ok (.getfield 23, 3) := by decide +kernel
theorem dX10_handler_139 : decode cX10_handler 139 = .ok (.iload_n 1, 1) := by decide +kernel
theorem dX10_handler_140 : decode cX10_handler 140 = .ok (.iaload, 1) := by decide +kernel
theorem dX10_handler_141 : decode cX10_handler 141 = .ok (.ireturn, 1) := by decide +kernel
theorem dX10_frame_0 : decode cX10_frame 0 = .ok (.aload_n 0, 1) := by decide +kernel
theorem dX10_frame_1 : decode cX10_frame 1 = .ok (.iload_n 1, 1) := by decide +kernel
theorem dX10_frame_2 : decode cX10_frame 2 = .ok (.invokevirtual 130, 3) := by decide +kernel
theorem dX10_frame_5 : decode cX10_frame 5 = .ok (.ifCond .eq 29, 3) := by decide +kernel
theorem dX10_frame_8 : decode cX10_frame 8 = .ok (.iload_n 2, 1) := by decide +kernel
theorem dX10_frame_9 : decode cX10_frame 9 = .ok (.i2l, 1) := by decide +kernel
theorem dX10_frame_10 : decode cX10_frame 10 = .ok (.lconst 0, 1) := by decide +kernel
theorem dX10_frame_11 : decode cX10_frame 11 = .ok (.ldc2_w 137, 3) := by decide +kernel
theorem dX10_frame_14 : decode cX10_frame 14 = .ok (.invokestatic 79, 3) := by decide +kernel
theorem dX10_frame_17 : decode cX10_frame 17 = .ok (.ifCond .eq 17, 3) := by decide +kernel
theorem dX10_frame_20 : decode cX10_frame 20 = .ok (.iload_n 3, 1) := by decide +kernel
theorem dX10_frame_21 : decode cX10_frame 21 = .ok (.i2l, 1) := by decide +kernel
theorem dX10_frame_22 : decode cX10_frame 22 = .ok (.ldc2_w 141, 3) := by decide +kernel
theorem dX10_frame_25 : decode cX10_frame 25 = .ok (.ldc2_w 143, 3) := by decide +kernel
theorem dX10_frame_28 : decode cX10_frame 28 = .ok (.invokestatic 79, 3) := by decide +kernel
theorem dX10_frame_31 : decode cX10_frame 31 = .ok (.ifCond .ne 5, 3) := by decide +kernel
theorem dX10_frame_34 : decode cX10_frame 34 = .ok (.iconst (-1), 1) := by decide +kernel
theorem dX10_frame_35 : decode cX10_frame 35 = .ok (.ireturn, 1) := by decide +kernel
theorem dX10_frame_36 : decode cX10_frame 36 = .ok (.aload_n 0, 1) := by decide +kernel
theorem dX10_frame_37 : decode cX10_frame 37 = .ok (.getfield 29, 3) := by decide +kernel
theorem dX10_frame_40 : decode cX10_frame 40 = .ok (.bipush 40, 2) := by decide +kernel
theorem dX10_frame_42 : decode cX10_frame 42 = .ok (.iload_n 1, 1) := by decide +kernel
theorem dX10_frame_43 : decode cX10_frame 43 = .ok (.imul, 1) := by decide +kernel
theorem dX10_frame_44 : decode cX10_frame 44 = .ok (.iload_n 2, 1) := by decide +kernel
theorem dX10_frame_45 : decode cX10_frame 45 = .ok (.iadd, 1) := by decide +kernel
theorem dX10_frame_46 : decode cX10_frame 46 = .ok (.iload_n 3, 1) := by decide +kernel
theorem dX10_frame_47 : decode cX10_frame 47 = .ok (.iastore, 1) := by decide +kernel
theorem dX10_frame_48 : decode cX10_frame 48 = .ok (.iconst 0, 1) := by decide +kernel
theorem dX10_frame_49 : decode cX10_frame 49 = .ok (.istore 4, 2) := by decide +kernel
theorem dX10_frame_51 : decode cX10_frame 51 = .ok (.iload 4, 2) := by decide +kernel
theorem dX10_frame_53 : decode cX10_frame 53 = .ok (.bipush 16, 2) := by decide +kernel
theorem dX10_frame_55 : decode cX10_frame 55 = .ok (.if_icmp .ge 27, 3) := by decide +kernel
theorem dX10_frame_58 : decode cX10_frame 58 = .ok (.aload_n 0, 1) := by decide +kernel
theorem dX10_frame_59 : decode cX10_frame 59 = .ok (.getfield 32, 3) := by decide +kernel
theorem dX10_frame_62 : decode cX10_frame 62 = .ok (.bipush 16, 2) := by decide +kernel
theorem dX10_frame_64 : decode cX10_frame 64 = .ok (.bipush 40, 2) := by decide +kernel
theorem dX10_frame_66 : decode cX10_frame 66 = .ok (.iload_n 1, 1) := by decide +kernel
theorem dX10_frame_67 : decode cX10_frame 67 = .ok (.imul, 1) := by decide +kernel
theorem dX10_frame_68 : decode cX10_frame 68 = .ok (.iload_n 2, 1) := by decide +kernel
theorem dX10_frame_69 : decode cX10_frame 69 = .ok (.iadd, 1) := by decide +kernel
theorem dX10_frame_70 : decode cX10_frame 70 = .ok (.imul, 1) := by decide +kernel
theorem dX10_frame_71 : decode cX10_frame 71 = .ok (.iload 4, 2) := by decide +kernel
theorem dX10_frame_73 : decode cX10_frame 73 = .ok (.iadd, 1) := by decide +kernel
theorem dX10_frame_74 : decode cX10_frame 74 = .ok (.iconst 0, 1) := by decide +kernel
theorem dX10_frame_75 : decode cX10_frame 75 = .ok (.iastore, 1) := by decide +kernel
theorem dX10_frame_76 : decode cX10_frame 76 = .ok (.iinc 4 1, 3) := by decide +kernel
theorem dX10_frame_79 : decode cX10_frame 79 = .ok (.goto (-28), 3) := by decide +kernel
theorem dX10_frame_82 : decode cX10_frame 82 = .ok (.aload_n 0, 1) := by decide +kernel
theorem dX10_frame_83 : decode cX10_frame 83 = .ok (.iload_n 1, 1) := by decide +kernel
theorem dX10_frame_84 : decode cX10_frame 84 = .ok (.invokevirtual 133, 3) := by decide +kernel
theorem dX10_frame_87 : decode cX10_frame 87 = .ok (.iconst 0, 1) := by decide +kernel
theorem dX10_frame_88 : decode cX10_frame 88 = .ok (.ireturn, 1) := by decide +kernel
theorem dX10_set_0 : decode cX10_set 0 = .ok (.aload_n 0, 1) := by decide +kernel
theorem dX10_set_1 : decode cX10_set 1 = .ok (.iload_n 1, 1) := by decide +kernel
theorem dX10_set_2 : decode cX10_set 2 = .ok (.invokevirtual 130, 3) := by decide +kernel
theorem dX10_set_5 : decode cX10_set 5 = .ok (.ifCond .eq 61, 3) := by decide +kernel
theorem dX10_set_8 : decode cX10_set 8 = .ok (.iload_n 2, 1) := by decide +kernel
theorem dX10_set_9 : decode cX10_set 9 = .ok (.i2l, 1) := by decide +kernel
theorem dX10_set_10 : decode cX10_set 10 = .ok (.lconst 0, 1) := by decide +kernel
theorem dX10_set_11 : decode cX10_set 11 = .ok (.ldc2_w 137, 3) := by decide +kernel
theorem dX10_set_14 : decode cX10_set 14 = .ok (.invokestatic 79, 3) := by decide +kernel
theorem dX10_set_17 : decode cX10_set 17 = .ok (.ifCond .eq 49, 3) := by decide +kernel
theorem dX10_set_20 : decode cX10_set 20 = .ok (.aload_n 0, 1) := by decide +kernel
theorem dX10_set_21 : decode cX10_set 21 = .ok (.getfield 29, 3) := by decide +kernel
theorem dX10_set_24 : decode cX10_set 24 = .ok (.bipush 40, 2) := by decide +kernel
theorem dX10_set_26 : decode cX10_set 26 = .ok (.iload_n 1, 1) := by decide +kernel
theorem dX10_set_27 : decode cX10_set 27 = .ok (.imul, 1) := by decide +kernel
theorem dX10_set_28 : decode cX10_set 28 = .ok (.iload_n 2, 1) := by decide +kernel
theorem dX10_set_29 : decode cX10_set 29 = .ok (.iadd, 1) := by decide +kernel
theorem dX10_set_30 : decode cX10_set 30 = .ok (.iaload, 1) := by decide +kernel
theorem dX10_set_31 : decode cX10_set 31 = .ok (.ifCond .lt 35, 3) := by decide +kernel
theorem dX10_set_34 : decode cX10_set 34 = .ok (.iload_n 3, 1) := by decide +kernel
theorem dX10_set_35 : decode cX10_set 35 = .ok (.i2l, 1) := by decide +kernel
theorem dX10_set_36 : decode cX10_set 36 = .ok (.lconst 0, 1) := by decide +kernel
theorem dX10_set_37 : decode cX10_set 37 = .ok (.bipush 7, 2) := by decide +kernel
theorem dX10_set_39 : decode cX10_set 39 = .ok (.aload_n 0, 1) := by decide +kernel
theorem dX10_set_40 : decode cX10_set 40 = .ok (.getfield 29, 3) := by decide +kernel
theorem dX10_set_43 : decode cX10_set 43 = .ok (.bipush 40, 2) := by decide +kernel
theorem dX10_set_45 : decode cX10_set 45 = .ok (.iload_n 1, 1) := by decide +kernel
theorem dX10_set_46 : decode cX10_set 46 = .ok (.imul, 1) := by decide +kernel
theorem dX10_set_47 : decode cX10_set 47 = .ok (.iload_n 2, 1) := by decide +kernel
theorem dX10_set_48 : decode cX10_set 48 = .ok (.iadd, 1) := by decide +kernel
theorem dX10_set_49 : decode cX10_set 49 = .ok (.iaload, 1) := by decide +kernel
theorem dX10_set_50 : decode cX10_set 50 = .ok (.iadd, 1) := by decide +kernel
theorem dX10_set_51 : decode cX10_set 51 = .ok (.i2l, 1) := by decide +kernel
theorem dX10_set_52 : decode cX10_set 52 = .ok (.invokestatic 79, 3) := by decide +kernel
theorem dX10_set_55 : decode cX10_set 55 = .ok (.ifCond .eq 11, 3) := by decide +kernel
theorem dX10_set_58 : decode cX10_set 58 = .ok (.iload 4, 2) := by decide +kernel
theorem dX10_set_60 : decode cX10_set 60 = .ok (.invokestatic 119, 3) := by decide +kernel
theorem dX10_set_63 : decode cX10_set 63 = .ok (.ifCond .ne 5, 3) := by decide +kernel
theorem dX10_set_66 : decode cX10_set 66 = .ok (.iconst (-1), 1) := by decide +kernel
theorem dX10_set_67 : decode cX10_set 67 = .ok (.ireturn, 1) := by decide +kernel
theorem dX10_set_68 : decode cX10_set 68 = .ok (.bipush 16, 2) := by decide +kernel
theorem dX10_set_70 : decode cX10_set 70 = .ok (.bipush 40, 2) := by decide +kernel
theorem dX10_set_72 : decode cX10_set 72 = .ok (.iload_n 1, 1) := by decide +kernel
theorem dX10_set_73 : decode cX10_set 73 = .ok (.imul, 1) := by decide +kernel
theorem dX10_set_74 : decode cX10_set 74 = .ok (.iload_n 2, 1) := by decide +kernel
theorem dX10_set_75 : decode cX10_set 75 = .ok (.iadd, 1) := by decide +kernel
theorem dX10_set_76 : decode cX10_set 76 = .ok (.imul, 1) := by decide +kernel
theorem dX10_set_77 : decode cX10_set 77 = .ok (.iload_n 3, 1) := by decide +kernel
theorem dX10_set_78 : decode cX10_set 78 = .ok (.iadd, 1) := by decide +kernel
theorem dX10_set_79 : decode cX10_set 79 = .ok (.istore 5, 2) := by decide +kernel
theorem dX10_set_81 : decode cX10_set 81 = .ok (.aload_n 0, 1) := by decide +kernel
theorem dX10_set_82 : decode cX10_set 82 = .ok (.getfield 32, 3) := by decide +kernel
theorem dX10_set_85 : decode cX10_set 85 = .ok (.iload 5, 2) := by decide +kernel
theorem dX10_set_87 : decode cX10_set 87 = .ok (.iaload, 1) := by decide +kernel
theorem dX10_set_88 : decode cX10_set 88 = .ok (.istore 6, 2) := by decide +kernel
theorem dX10_set_90 : decode cX10_set 90 = .ok (.aload_n 0, 1) := by decide +kernel
theorem dX10_set_91 : decode cX10_set 91 = .ok (.getfield 32, 3) := by decide +kernel
theorem dX10_set_94 : decode cX10_set 94 = .ok (.iload 5, 2) := by decide +kernel
theorem dX10_set_96 : decode cX10_set 96 = .ok (.iload 4, 2) := by decide +kernel
theorem dX10_set_98 : decode cX10_set 98 = .ok (.iastore, 1) := by decide +kernel
theorem dX10_set_99 : decode cX10_set 99 = .ok (.aload_n 0, 1) := by decide +kernel
theorem dX10_set_100 : decode cX10_set 100 = .ok (.iload_n 1, 1) := by decide +kernel
theorem dX10_set_101 : decode cX10_set 101 = .ok (.invokevirtual 133, 3) := by decide +kernel
theorem dX10_set_104 : decode cX10_set 104 = .ok (.iload 6, 2) := by decide +kernel
theorem dX10_set_106 : decode cX10_set 106 = .ok (.ireturn, 1) := by decide +kernel
theorem dX10_push_0 : decode cX10_push 0 = .ok (.aload_n 0, 1) := by decide +kernel
theorem dX10_push_1 : decode cX10_push 1 = .ok (.getfield 145, 3) := by decide +kernel
theorem dX10_push_4 : decode cX10_push 4 = .ok (.bipush 8, 2) := by decide +kernel
theorem dX10_push_6 : decode cX10_push 6 = .ok (.if_icmp .ne 5, 3) := by decide +kernel
theorem dX10_push_9 : decode cX10_push 9 = .ok (.iconst 0, 1) := by decide +kernel
theorem dX10_push_10 : decode cX10_push 10 = .ok (.ireturn, 1) := by decide +kernel
theorem dX10_push_11 : decode cX10_push 11 = .ok (.aload_n 0, 1) := by decide +kernel
theorem dX10_push_12 : decode cX10_push 12 = .ok (.getfield 45, 3) := by decide +kernel
theorem dX10_push_15 : decode cX10_push 15 = .ok (.bipush 8, 2) := by decide +kernel
theorem dX10_push_17 : decode cX10_push 17 = .ok (.aload_n 0, 1) := by decide +kernel
theorem dX10_push_18 : decode cX10_push 18 = .ok (.getfield 145, 3) := by decide +kernel
theorem dX10_push_21 : decode cX10_push 21 = .ok (.iadd, 1) := by decide +kernel
theorem dX10_push_22 : decode cX10_push 22 = .ok (.iload_n 1, 1) := by decide +kernel
theorem dX10_push_23 : decode cX10_push 23 = .ok (.iastore, 1) := by decide +kernel
theorem dX10_push_24 : decode cX10_push 24 = .ok (.aload_n 0, 1) := by decide +kernel
theorem dX10_push_25 : decode cX10_push 25 = .ok (.dup, 1) := by decide +kernel
theorem dX10_push_26 : decode cX10_push 26 = .ok (.getfield 145, 3) := by decide +kernel
theorem dX10_push_29 : decode cX10_push 29 = .ok (.iconst 1, 1) := by decide +kernel
theorem dX10_push_30 : decode cX10_push 30 = .ok (.iadd, 1) := by decide +kernel
theorem dX10_push_31 : decode cX10_push 31 = .ok (.putfield 145, 3) := by decide +kernel
theorem dX10_push_34 : decode cX10_push 34 = .ok (.iconst 1, 1) := by decide +kernel
theorem dX10_push_35 : decode cX10_push 35 = .ok (.ireturn, 1) := by decide +kernel
theorem dX10_pop_0 : decode cX10_pop 0 = .ok (.aload_n 0, 1) := by decide +kernel
theorem dX10_pop_1 : decode cX10_pop 1 = .ok (.getfield 145, 3) := by decide +kernel
theorem dX10_pop_4 : decode cX10_pop 4 = .ok (.ifCond .eq 22, 3) := by decide +kernel
theorem dX10_pop_7 : decode cX10_pop 7 = .ok (.aload_n 0, 1) := by decide +kernel
theorem dX10_pop_8 : decode cX10_pop 8 = .ok (.getfield 45, 3) := by decide +kernel
theorem dX10_pop_11 : decode cX10_pop 11 = .ok (.bipush 7, 2) := by decide +kernel
theorem dX10_pop_13 : decode cX10_pop 13 = .ok (.aload_n 0, 1) := by decide +kernel
theorem dX10_pop_14 : decode cX10_pop 14 = .ok (.getfield 145, 3) := by decide +kernel
theorem dX10_pop_17 : decode cX10_pop 17 = .ok (.iadd, 1) := by decide +kernel
theorem dX10_pop_18 : decode cX10_pop 18 = .ok (.iaload, 1) := by decide +kernel
theorem dX10_pop_19 : decode cX10_pop 19 = .ok (.iload_n 1, 1) := by decide +kernel
theorem dX10_pop_20 : decode cX10_pop 20 = .ok (.invokestatic 125, 3) := by decide +kernel
theorem dX10_pop_23 : decode cX10_pop 23 = .ok (.ifCond .ne 5, 3) := by decide +kernel
theorem dX10_pop_26 : decode cX10_pop 26 = .ok (.iconst 0, 1) := by decide +kernel
theorem dX10_pop_27 : decode cX10_pop 27 = .ok (.ireturn, 1) := by decide +kernel
theorem dX10_pop_28 : decode cX10_pop 28 = .ok (.aload_n 0, 1) := by decide +kernel
theorem dX10_pop_29 : decode cX10_pop 29 = .ok (.dup, 1) := by decide +kernel
theorem dX10_pop_30 : decode cX10_pop 30 = .ok (.getfield 145, 3) := by decide +kernel
theorem dX10_pop_33 : decode cX10_pop 33 = .ok (.iconst 1, 1) := by decide +kernel
theorem dX10_pop_34 : decode cX10_pop 34 = .ok (.isub, 1) := by decide +kernel
theorem dX10_pop_35 : decode cX10_pop 35 = .ok (.putfield 145, 3) := by decide +kernel
theorem dX10_pop_38 : decode cX10_pop 38 = .ok (.iconst 1, 1) := by decide +kernel
theorem dX10_pop_39 : decode cX10_pop 39 = .ok (.ireturn, 1) := by decide +kernel
theorem dX10_pushLong_0 : decode cX10_pushLong 0 = .ok (.aload_n 0, 1) := by decide +kernel
theorem dX10_pushLong_1 : decode cX10_pushLong 1 = .ok (.iconst 2, 1) := by decide +kernel
theorem dX10_pushLong_2 : decode cX10_pushLong 2 = .ok (.invokevirtual 148, 3) := by decide +kernel
theorem dX10_pushLong_5 : decode cX10_pushLong 5 = .ok (.ifCond .eq 15, 3) := by decide +kernel
theorem dX10_pushLong_8 : decode cX10_pushLong 8 = .ok (.aload_n 0, 1) := by decide +kernel
theorem dX10_pushLong_9 : decode cX10_pushLong 9 = .ok (.iconst 3, 1) := by decide +kernel
theorem dX10_pushLong_10 : decode cX10_pushLong 10 = .ok (.invokevirtual 148, 3) := by decide +kernel
theorem dX10_pushLong_13 : decode cX10_pushLong 13 = .ok (.ifCond .eq 7, 3) := by decide +kernel
theorem dX10_pushLong_16 : decode cX10_pushLong 16 = .ok (.iconst 1, 1) := by decide +kernel
theorem dX10_pushLong_17 : decode cX10_pushLong 17 = .ok (.goto 4, 3) := by decide +kernel
theorem dX10_pushLong_20 : decode cX10_pushLong 20 = .ok (.iconst 0, 1) := by decide +kernel
theorem dX10_pushLong_21 : decode cX10_pushLong 21 = .ok (.ireturn, 1) := by decide +kernel
theorem dX10_popLong_0 : decode cX10_popLong 0 = .ok (.aload_n 0, 1) := by decide +kernel
theorem dX10_popLong_1 : decode cX10_popLong 1 = .ok (.getfield 145, 3) := by decide +kernel
theorem dX10_popLong_4 : decode cX10_popLong 4 = .ok (.iconst 2, 1) := by decide +kernel
theorem dX10_popLong_5 : decode cX10_popLong 5 = .ok (.if_icmp .lt 35, 3) := by decide +kernel
theorem dX10_popLong_8 : decode cX10_popLong 8 = .ok (.aload_n 0, 1) := by decide +kernel
theorem dX10_popLong_9 : decode cX10_popLong 9 = .ok (.getfield 45, 3) := by decide +kernel
theorem dX10_popLong_12 : decode cX10_popLong 12 = .ok (.bipush 7, 2) := by decide +kernel
theorem dX10_popLong_14 : decode cX10_popLong 14 = .ok (.aload_n 0, 1) := by decide +kernel
theorem dX10_popLong_15 : decode cX10_popLong 15 = .ok (.getfield 145, 3) := by decide +kernel
theorem dX10_popLong_18 : decode cX10_popLong 18 = .ok (.iadd, 1) := by decide +kernel
theorem dX10_popLong_19 : decode cX10_popLong 19 = .ok (.iaload, 1) := by decide +kernel
theorem dX10_popLong_20 : decode cX10_popLong 20 = .ok (.iconst 3, 1) := by decide +kernel
theorem dX10_popLong_21 : decode cX10_popLong 21 = .ok (.if_icmp .ne 19, 3) := by decide +kernel
theorem dX10_popLong_24 : decode cX10_popLong 24 = .ok (.aload_n 0, 1) := by decide +kernel
theorem dX10_popLong_25 : decode cX10_popLong 25 = .ok (.getfield 45, 3) := by decide +kernel
theorem dX10_popLong_28 : decode cX10_popLong 28 = .ok (.bipush 6, 2) := by decide +kernel
theorem dX10_popLong_30 : decode cX10_popLong 30 = .ok (.aload_n 0, 1) := by decide +kernel
theorem dX10_popLong_31 : decode cX10_popLong 31 = .ok (.getfield 145, 3) := by decide +kernel
theorem dX10_popLong_34 : decode cX10_popLong 34 = .ok (.iadd, 1) := by decide +kernel
theorem dX10_popLong_35 : decode cX10_popLong 35 = .ok (.iaload, 1) := by decide +kernel
theorem dX10_popLong_36 : decode cX10_popLong 36 = .ok (.iconst 2, 1) := by decide +kernel
theorem dX10_popLong_37 : decode cX10_popLong 37 = .ok (.if_icmp .eq 5, 3) := by decide +kernel
theorem dX10_popLong_40 : decode cX10_popLong 40 = .ok (.iconst 0, 1) := by decide +kernel
theorem dX10_popLong_41 : decode cX10_popLong 41 = .ok (.ireturn, 1) := by decide +kernel
theorem dX10_popLong_42 : decode cX10_popLong 42 = .ok (.aload_n 0, 1) := by decide +kernel
theorem dX10_popLong_43 : decode cX10_popLong 43 = .ok (.dup, 1) := by decide +kernel
theorem dX10_popLong_44 : decode cX10_popLong 44 = .ok (.getfield 145, 3) := by decide +kernel
theorem dX10_popLong_47 : decode cX10_popLong 47 = .ok (.iconst 2, 1) := by decide +kernel
theorem dX10_popLong_48 : decode cX10_popLong 48 = .ok (.isub, 1) := by decide +kernel
theorem dX10_popLong_49 : decode cX10_popLong 49 = .ok (.putfield 145, 3) := by decide +kernel
theorem dX10_popLong_52 : decode cX10_popLong 52 = .ok (.iconst 1, 1) := by decide +kernel
theorem dX10_popLong_53 : decode cX10_popLong 53 = .ok (.ireturn, 1) := by decide +kernel
theorem dX10_isOnePlace_0 : decode cX10_isOnePlace 0 = .ok (.iload_n 0, 1) := by decide +kernel
theorem dX10_isOnePlace_1 : decode cX10_isOnePlace 1 = .ok (.iconst 1, 1) := by decide +kernel
theorem dX10_isOnePlace_2 : decode cX10_isOnePlace 2 = .ok (.if_icmp .eq 8, 3) := by decide +kernel
theorem dX10_isOnePlace_5 : decode cX10_isOnePlace 5 = .ok (.iload_n 0, 1) := by decide +kernel
theorem dX10_isOnePlace_6 : decode cX10_isOnePlace 6 = .ok (.iconst 4, 1) := by decide +kernel
theorem dX10_isOnePlace_7 : decode cX10_isOnePlace 7 = .ok (.if_icmp .lt 7, 3) := by decide +kernel
theorem dX10_isOnePlace_10 : decode cX10_isOnePlace 10 = .ok (.iconst 1, 1) := by decide +kernel
theorem dX10_isOnePlace_11 : decode cX10_isOnePlace 11 = .ok (.goto 4, 3) := by decide +kernel
theorem dX10_isOnePlace_14 : decode cX10_isOnePlace 14 = .ok (.iconst 0, 1) := by decide +kernel
theorem dX10_isOnePlace_15 : decode cX10_isOnePlace 15 = .ok (.ireturn, 1) := by decide +kernel
theorem dX10_isOneOnTop_0 : decode cX10_isOneOnTop 0 = .ok (.aload_n 0, 1) := by decide +kernel
theorem dX10_isOneOnTop_1 : decode cX10_isOneOnTop 1 = .ok (.getfield 145, 3) := by decide +kernel
theorem dX10_isOneOnTop_4 : decode cX10_isOneOnTop 4 = .ok (.iload_n 1, 1) := by decide +kernel
theorem dX10_isOneOnTop_5 : decode cX10_isOneOnTop 5 = .ok (.if_icmp .le 27, 3) := by decide +kernel
theorem dX10_isOneOnTop_8 : decode cX10_isOneOnTop 8 = .ok (.aload_n 0, 1) := by decide +kernel
theorem dX10_isOneOnTop_9 : decode cX10_isOneOnTop 9 = .ok (.getfield 45, 3) := by decide +kernel
theorem dX10_isOneOnTop_12 : decode cX10_isOneOnTop 12 = .ok (.bipush 7, 2) := by decide +kernel
theorem dX10_isOneOnTop_14 : decode cX10_isOneOnTop 14 = .ok (.aload_n 0, 1) := by decide +kernel
theorem dX10_isOneOnTop_15 : decode cX10_isOneOnTop 15 = .ok (.getfield 145, 3) := by decide +kernel
theorem dX10_isOneOnTop_18 : decode cX10_isOneOnTop 18 = .ok (.iadd, 1) := by decide +kernel
theorem dX10_isOneOnTop_19 : decode cX10_isOneOnTop 19 = .ok (.iload_n 1, 1) := by decide +kernel
theorem dX10_isOneOnTop_20 : decode cX10_isOneOnTop 20 = .ok (.isub, 1) := by decide +kernel
theorem dX10_isOneOnTop_21 : decode cX10_isOneOnTop 21 = .ok (.iaload, 1) := by decide +kernel
theorem dX10_isOneOnTop_22 : decode cX10_isOneOnTop 22 = .ok (.invokestatic 151, 3) := by decide +kernel
theorem dX10_isOneOnTop_25 : decode cX10_isOneOnTop 25 = .ok (.ifCond .eq 7, 3) := by decide +kernel
theorem dX10_isOneOnTop_28 : decode cX10_isOneOnTop 28 = .ok (.iconst 1, 1) := by decide +kernel
theorem dX10_isOneOnTop_29 : decode cX10_isOneOnTop 29 = .ok (.goto 4, 3) := by decide +kernel
theorem dX10_isOneOnTop_32 : decode cX10_isOneOnTop 32 = .ok (.iconst 0, 1) := by decide +kernel
theorem dX10_isOneOnTop_33 : decode cX10_isOneOnTop 33 = .ok (.ireturn, 1) := by decide +kernel
theorem dX10_local_0 : decode cX10_local 0 = .ok (.aload_n 0, 1) := by decide +kernel
theorem dX10_local_1 : decode cX10_local 1 = .ok (.getfield 45, 3) := by decide +kernel
theorem dX10_local_4 : decode cX10_local 4 = .ok (.iload_n 1, 1) := by decide +kernel
theorem dX10_local_5 : decode cX10_local 5 = .ok (.iaload, 1) := by decide +kernel
theorem dX10_local_6 : decode cX10_local 6 = .ok (.iconst 3, 1) := by decide +kernel
theorem dX10_local_7 : decode cX10_local 7 = .ok (.if_icmp .ne 28, 3) := by decide +kernel
theorem dX10_local_10 : decode cX10_local 10 = .ok (.iload_n 1, 1) := by decide +kernel
theorem dX10_local_11 : decode cX10_local 11 = .ok (.ifCond .le 24, 3) := by decide +kernel
theorem dX10_local_14 : decode cX10_local 14 = .ok (.aload_n 0, 1) := by decide +kernel
theorem dX10_local_15 : decode cX10_local 15 = .ok (.getfield 45, 3) := by decide +kernel
theorem dX10_local_18 : decode cX10_local 18 = .ok (.iload_n 1, 1) := by decide +kernel
theorem dX10_local_19 : decode cX10_local 19 = .ok (.iconst 1, 1) := by decide +kernel
theorem dX10_local_20 : decode cX10_local 20 = .ok (.isub, 1) := by decide +kernel
theorem dX10_local_21 : decode cX10_local 21 = .ok (.iaload, 1) := by decide +kernel
theorem dX10_local_22 : decode cX10_local 22 = .ok (.iconst 2, 1) := by decide +kernel
theorem dX10_local_23 : decode cX10_local 23 = .ok (.if_icmp .ne 12, 3) := by decide +kernel
theorem dX10_local_26 : decode cX10_local 26 = .ok (.aload_n 0, 1) := by decide +kernel
theorem dX10_local_27 : decode cX10_local 27 = .ok (.getfield 45, 3) := by decide +kernel
theorem dX10_local_30 : decode cX10_local 30 = .ok (.iload_n 1, 1) := by decide +kernel
theorem dX10_local_31 : decode cX10_local 31 = .ok (.iconst 1, 1) := by decide +kernel
theorem dX10_local_32 : decode cX10_local 32 = .ok (.isub, 1) := by decide +kernel
theorem dX10_local_33 : decode cX10_local 33 = .ok (.iconst 0, 1) := by decide +kernel
theorem dX10_local_34 : decode cX10_local 34 = .ok (.iastore, 1) := by decide +kernel
theorem dX10_local_35 : decode cX10_local 35 = .ok (.aload_n 0, 1) := by decide +kernel
theorem dX10_local_36 : decode cX10_local 36 = .ok (.getfield 45, 3) := by decide +kernel
theorem dX10_local_39 : decode cX10_local 39 = .ok (.iload_n 1, 1) := by decide +kernel
theorem dX10_local_40 : decode cX10_local 40 = .ok (.iaload, 1) := by decide +kernel
theorem dX10_local_41 : decode cX10_local 41 = .ok (.iconst 2, 1) := by decide +kernel
theorem dX10_local_42 : decode cX10_local 42 = .ok (.if_icmp .ne 30, 3) := by decide +kernel
theorem dX10_local_45 : decode cX10_local 45 = .ok (.iload_n 1, 1) := by decide +kernel
theorem dX10_local_46 : decode cX10_local 46 = .ok (.bipush 7, 2) := by decide +kernel
theorem dX10_local_48 : decode cX10_local 48 = .ok (.if_icmp .ge 24, 3) := by decide +kernel
theorem dX10_local_51 : decode cX10_local 51 = .ok (.aload_n 0, 1) := by decide +kernel
theorem dX10_local_52 : decode cX10_local 52 = .ok (.getfield 45, 3) := by decide +kernel
theorem dX10_local_55 : decode cX10_local 55 = .ok (.iload_n 1, 1) := by decide +kernel
theorem dX10_local_56 : decode cX10_local 56 = .ok (.iconst 1, 1) := by decide +kernel
theorem dX10_local_57 : decode cX10_local 57 = .ok (.iadd, 1) := by decide +kernel
theorem dX10_local_58 : decode cX10_local 58 = .ok (.iaload, 1) := by decide +kernel
theorem dX10_local_59 : decode cX10_local 59 = .ok (.iconst 3, 1) := by decide +kernel
theorem dX10_local_60 : decode cX10_local 60 = .ok (.if_icmp .ne 12, 3) := by decide +kernel
theorem dX10_local_63 : decode cX10_local 63 = .ok (.aload_n 0, 1) := by decide +kernel
theorem dX10_local_64 : decode cX10_local 64 = .ok (.getfield 45, 3) := by decide +kernel
theorem dX10_local_67 : decode cX10_local 67 = .ok (.iload_n 1, 1) := by decide +kernel
theorem dX10_local_68 : decode cX10_local 68 = .ok (.iconst 1, 1) := by decide +kernel
theorem dX10_local_69 : decode cX10_local 69 = .ok (.iadd, 1) := by decide +kernel
theorem dX10_local_70 : decode cX10_local 70 = .ok (.iconst 0, 1) := by decide +kernel
theorem dX10_local_71 : decode cX10_local 71 = .ok (.iastore, 1) := by decide +kernel
theorem dX10_local_72 : decode cX10_local 72 = .ok (.aload_n 0, 1) := by decide +kernel
theorem dX10_local_73 : decode cX10_local 73 = .ok (.getfield 45, 3) := by decide +kernel
theorem dX10_local_76 : decode cX10_local 76 = .ok (.iload_n 1, 1) := by decide +kernel
theorem dX10_local_77 : decode cX10_local 77 = .ok (.iload_n 2, 1) := by decide +kernel
theorem dX10_local_78 : decode cX10_local 78 = .ok (.iastore, 1) := by decide +kernel
theorem dX10_local_79 : decode cX10_local 79 = .ok (.return_, 1) := by decide +kernel
theorem dX10_does_0 : decode cX10_does 0 = .ok (.aload_n 0, 1) := by decide +kernel
theorem dX10_does_1 : decode cX10_does 1 = .ok (.getfield 16, 3) := by decide +kernel
theorem dX10_does_4 : decode cX10_does 4 = .ok (.bipush 40, 2) := by decide +kernel
