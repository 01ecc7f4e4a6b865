theorem dX10_isMethod_0 : decode cX10_isMethod 0 = .ok (.iload_n 1, 1) := by decide +kernel
theorem dX10_isMethod_1 : decode cX10_isMethod 1 = .ok (.i2l, 1) := by decide +kernel
theorem dX10_isMethod_2 : decode cX10_isMethod 2 = .ok (.lconst 0, 1) := by decide +kernel
theorem dX10_isMethod_3 : decode cX10_isMethod 3 = .ok (.aload_n 0, 1) := by decide +kernel
theorem dX10_isMethod_4 : decode cX10_isMethod 4 = .ok (.getfield 75, 3) := by decide +kernel
theorem dX10_isMethod_7 : decode cX10_isMethod 7 = .ok (.iconst 1, 1) := by decide +kernel
theorem dX10_isMethod_8 : decode cX10_isMethod 8 = .ok (.isub, 1) := by decide +kernel
theorem dX10_isMethod_9 : decode cX10_isMethod 9 = .ok (.i2l, 1) := by decide +kernel
theorem dX10_isMethod_10 : decode cX10_isMethod 10 = .ok (.invokestatic 79, 3) := by decide +kernel
theorem dX10_isMethod_13 : decode cX10_isMethod 13 = .ok (.ireturn, 1) := by decide +kernel
theorem dX10_kinds_0 : decode cX10_kinds 0 = .ok (.iload_n 1, 1) := by decide +kernel
theorem dX10_kinds_1 : decode cX10_kinds 1 = .ok (.invokestatic 119, 3) := by decide +kernel
theorem dX10_kinds_4 : decode cX10_kinds 4 = .ok (.ifCond .eq 10, 3) := by decide +kernel
theorem dX10_kinds_7 : decode cX10_kinds 7 = .ok (.iload_n 2, 1) := by decide +kernel
theorem dX10_kinds_8 : decode cX10_kinds 8 = .ok (.invokestatic 119, 3) := by decide +kernel
theorem dX10_kinds_11 : decode cX10_kinds 11 = .ok (.ifCond .ne 5, 3) := by decide +kernel
theorem dX10_kinds_14 : decode cX10_kinds 14 = .ok (.iconst (-1), 1) := by decide +kernel
theorem dX10_kinds_15 : decode cX10_kinds 15 = .ok (.ireturn, 1) := by decide +kernel
theorem dX10_kinds_16 : decode cX10_kinds 16 = .ok (.iload_n 3, 1) := by decide +kernel
theorem dX10_kinds_17 : decode cX10_kinds 17 = .ok (.ifCond .ne 11, 3) := by decide +kernel
theorem dX10_kinds_20 : decode cX10_kinds 20 = .ok (.iload_n 1, 1) := by decide +kernel
theorem dX10_kinds_21 : decode cX10_kinds 21 = .ok (.iload_n 2, 1) := by decide +kernel
theorem dX10_kinds_22 : decode cX10_kinds 22 = .ok (.invokestatic 122, 3) := by decide +kernel
theorem dX10_kinds_25 : decode cX10_kinds 25 = .ok (.goto 16, 3) := by decide +kernel
theorem dX10_kinds_28 : decode cX10_kinds 28 = .ok (.iload_n 1, 1) := by decide +kernel
theorem dX10_kinds_29 : decode cX10_kinds 29 = .ok (.iload_n 2, 1) := by decide +kernel
theorem dX10_kinds_30 : decode cX10_kinds 30 = .ok (.invokestatic 125, 3) := by decide +kernel
theorem dX10_kinds_33 : decode cX10_kinds 33 = .ok (.ifCond .eq 7, 3) := by decide +kernel
theorem dX10_kinds_36 : decode cX10_kinds 36 = .ok (.iconst 1, 1) := by decide +kernel
theorem dX10_kinds_37 : decode cX10_kinds 37 = .ok (.goto 4, 3) := by decide +kernel
theorem dX10_kinds_40 : decode cX10_kinds 40 = .ok (.iconst 0, 1) := by decide +kernel
theorem dX10_kinds_41 : decode cX10_kinds 41 = .ok (.ireturn, 1) := by decide +kernel
theorem dX10_changed_0 : decode cX10_changed 0 = .ok (.aload_n 0, 1) := by decide +kernel
theorem dX10_changed_1 : decode cX10_changed 1 = .ok (.getfield 35, 3) := by decide +kernel
theorem dX10_changed_4 : decode cX10_changed 4 = .ok (.iload_n 1, 1) := by decide +kernel
theorem dX10_changed_5 : decode cX10_changed 5 = .ok (.iconst 0, 1) := by decide +kernel
theorem dX10_changed_6 : decode cX10_changed 6 = .ok (.bastore, 1) := by decide +kernel
theorem dX10_changed_7 : decode cX10_changed 7 = .ok (.return_, 1) := by decide +kernel
theorem dX10_told_0 : decode cX10_told 0 = .ok (.iload_n 1, 1) := by decide +kernel
theorem dX10_told_1 : decode cX10_told 1 = .ok (.tableswitch 84 0 4 #[35, 40, 45, 50, 67], 35) := by decide +kernel
theorem dX10_told_36 : decode cX10_told 36 = .ok (.aload_n 0, 1) := by decide +kernel
theorem dX10_told_37 : decode cX10_told 37 = .ok (.getfield 251, 3) := by decide +kernel
theorem dX10_told_40 : decode cX10_told 40 = .ok (.ireturn, 1) := by decide +kernel
theorem dX10_told_41 : decode cX10_told 41 = .ok (.aload_n 0, 1) := by decide +kernel
theorem dX10_told_42 : decode cX10_told 42 = .ok (.getfield 254, 3) := by decide +kernel
theorem dX10_told_45 : decode cX10_told 45 = .ok (.ireturn, 1) := by decide +kernel
theorem dX10_told_46 : decode cX10_told 46 = .ok (.aload_n 0, 1) := by decide +kernel
theorem dX10_told_47 : decode cX10_told 47 = .ok (.getfield 248, 3) := by decide +kernel
theorem dX10_told_50 : decode cX10_told 50 = .ok (.ireturn, 1) := by decide +kernel
theorem dX10_told_51 : decode cX10_told 51 = .ok (.aload_n 0, 1) := by decide +kernel
theorem dX10_told_52 : decode cX10_told 52 = .ok (.getfield 245, 3) := by decide +kernel
theorem dX10_told_55 : decode cX10_told 55 = .ok (.ifCond .eq 10, 3) := by decide +kernel
theorem dX10_told_58 : decode cX10_told 58 = .ok (.aload_n 0, 1) := by decide +kernel
theorem dX10_told_59 : decode cX10_told 59 = .ok (.getfield 257, 3) := by decide +kernel
theorem dX10_told_62 : decode cX10_told 62 = .ok (.goto 5, 3) := by decide +kernel
theorem dX10_told_65 : decode cX10_told 65 = .ok (.ldc 234, 2) := by decide +kernel
theorem dX10_told_67 : decode cX10_told 67 = .ok (.ireturn, 1) := by decide +kernel
theorem dX10_told_68 : decode cX10_told 68 = .ok (.aload_n 0, 1) := by decide +kernel
theorem dX10_told_69 : decode cX10_told 69 = .ok (.getfield 245, 3) := by decide +kernel
theorem dX10_told_72 : decode cX10_told 72 = .ok (.ifCond .eq 10, 3) := by decide +kernel
theorem dX10_told_75 : decode cX10_told 75 = .ok (.aload_n 0, 1) := by decide +kernel
theorem dX10_told_76 : decode cX10_told 76 = .ok (.getfield 260, 3) := by decide +kernel
theorem dX10_told_79 : decode cX10_told 79 = .ok (.goto 5, 3) := by decide +kernel
theorem dX10_told_82 : decode cX10_told 82 = .ok (.ldc 234, 2) := by decide +kernel
theorem dX10_told_84 : decode cX10_told 84 = .ok (.ireturn, 1) := by decide +kernel
theorem dX10_told_85 : decode cX10_told 85 = .ok (.iconst (-1), 1) := by decide +kernel
theorem dX10_told_86 : decode cX10_told 86 = .ok (.ireturn, 1) := by decide +kernel
theorem dX10_count_0 : decode cX10_count 0 = .ok (.iload_n 1, 1) := by decide +kernel
theorem dX10_count_1 : decode cX10_count 1 = .ok (.ifCond .ne 8, 3) := by decide +kernel
theorem dX10_count_4 : decode cX10_count 4 = .ok (.aload_n 0, 1) := by decide +kernel
theorem dX10_count_5 : decode cX10_count 5 = .ok (.getfield 75, 3) := by decide +kernel
theorem dX10_count_8 : decode cX10_count 8 = .ok (.ireturn, 1) := by decide +kernel
theorem dX10_count_9 : decode cX10_count 9 = .ok (.iload_n 1, 1) := by decide +kernel
theorem dX10_count_10 : decode cX10_count 10 = .ok (.i2l, 1) := by decide +kernel
theorem dX10_count_11 : decode cX10_count 11 = .ok (.lconst 1, 1) := by decide +kernel
theorem dX10_count_12 : decode cX10_count 12 = .ok (.ldc2_w 278, 3) := by decide +kernel
theorem dX10_count_15 : decode cX10_count 15 = .ok (.invokestatic 79, 3) := by decide +kernel
theorem dX10_count_18 : decode cX10_count 18 = .ok (.ifCond .eq 11, 3) := by decide +kernel
theorem dX10_count_21 : decode cX10_count 21 = .ok (.aload_n 0, 1) := by decide +kernel
theorem dX10_count_22 : decode cX10_count 22 = .ok (.iload_n 2, 1) := by decide +kernel
theorem dX10_count_23 : decode cX10_count 23 = .ok (.invokevirtual 130, 3) := by decide +kernel
theorem dX10_count_26 : decode cX10_count 26 = .ok (.ifCond .ne 5, 3) := by decide +kernel
theorem dX10_count_29 : decode cX10_count 29 = .ok (.iconst (-1), 1) := by decide +kernel
theorem dX10_count_30 : decode cX10_count 30 = .ok (.ireturn, 1) := by decide +kernel
theorem dX10_count_31 : decode cX10_count 31 = .ok (.iload_n 1, 1) := by decide +kernel
theorem dX10_count_32 : decode cX10_count 32 = .ok (.iconst 1, 1) := by decide +kernel
theorem dX10_count_33 : decode cX10_count 33 = .ok (.if_icmp .ne 12, 3) := by decide +kernel
theorem dX10_count_36 : decode cX10_count 36 = .ok (.aload_n 0, 1) := by decide +kernel
theorem dX10_count_37 : decode cX10_count 37 = .ok (.getfield 13, 3) := by decide +kernel
theorem dX10_count_40 : decode cX10_count 40 = .ok (.iload_n 2, 1) := by decide +kernel
theorem dX10_count_41 : decode cX10_count 41 = .ok (.iaload, 1) := by decide +kernel
theorem dX10_count_42 : decode cX10_count 42 = .ok (.goto 31, 3) := by decide +kernel
theorem dX10_count_45 : decode cX10_count 45 = .ok (.iload_n 1, 1) := by decide +kernel
theorem dX10_count_46 : decode cX10_count 46 = .ok (.iconst 2, 1) := by decide +kernel
theorem dX10_count_47 : decode cX10_count 47 = .ok (.if_icmp .ne 12, 3) := by decide +kernel
theorem dX10_count_50 : decode cX10_count 50 = .ok (.aload_n 0, 1) := by decide +kernel
theorem dX10_count_51 : decode cX10_count 51 = .ok (.getfield 23, 3) := by decide +kernel
theorem dX10_count_54 : decode cX10_count 54 = .ok (.iload_n 2, 1) := by decide +kernel
theorem dX10_count_55 : decode cX10_count 55 = .ok (.iaload, 1) := by decide +kernel
theorem dX10_count_56 : decode cX10_count 56 = .ok (.goto 17, 3) := by decide +kernel
theorem dX10_count_59 : decode cX10_count 59 = .ok (.aload_n 0, 1) := by decide +kernel
theorem dX10_count_60 : decode cX10_count 60 = .ok (.getfield 35, 3) := by decide +kernel
theorem dX10_count_63 : decode cX10_count 63 = .ok (.iload_n 2, 1) := by decide +kernel
theorem dX10_count_64 : decode cX10_count 64 = .ok (.baload, 1) := by decide +kernel
theorem dX10_count_65 : decode cX10_count 65 = .ok (.ifCond .eq 7, 3) := by decide +kernel
theorem dX10_count_68 : decode cX10_count 68 = .ok (.iconst 1, 1) := by decide +kernel
theorem dX10_count_69 : decode cX10_count 69 = .ok (.goto 4, 3) := by decide +kernel
theorem dX10_count_72 : decode cX10_count 72 = .ok (.iconst 0, 1) := by decide +kernel
theorem dX10_count_73 : decode cX10_count 73 = .ok (.ireturn, 1) := by decide +kernel
theorem dX10_rounds_0 : decode cX10_rounds 0 = .ok (.aload_n 0, 1) := by decide +kernel
theorem dX10_rounds_1 : decode cX10_rounds 1 = .ok (.getfield 225, 3) := by decide +kernel
theorem dX10_rounds_4 : decode cX10_rounds 4 = .ok (.ireturn, 1) := by decide +kernel
theorem dX10_answer_0 : decode cX10_answer 0 = .ok (.aload_n 0, 1) := by decide +kernel
theorem dX10_answer_1 : decode cX10_answer 1 = .ok (.getfield 263, 3) := by decide +kernel
theorem dX10_answer_4 : decode cX10_answer 4 = .ok (.ireturn, 1) := by decide +kernel
theorem dX10_method_0 : decode cX10_method 0 = .ok (.iload_n 1, 1) := by decide +kernel
theorem dX10_method_1 : decode cX10_method 1 = .ok (.i2l, 1) := by decide +kernel
theorem dX10_method_2 : decode cX10_method 2 = .ok (.lconst 0, 1) := by decide +kernel
theorem dX10_method_3 : decode cX10_method 3 = .ok (.ldc2_w 128, 3) := by decide +kernel
theorem dX10_method_6 : decode cX10_method 6 = .ok (.invokestatic 79, 3) := by decide +kernel
theorem dX10_method_9 : decode cX10_method 9 = .ok (.ifCond .ne 5, 3) := by decide +kernel
theorem dX10_method_12 : decode cX10_method 12 = .ok (.iconst (-1), 1) := by decide +kernel
theorem dX10_method_13 : decode cX10_method 13 = .ok (.ireturn, 1) := by decide +kernel
theorem dX10_method_14 : decode cX10_method 14 = .ok (.aload_n 0, 1) := by decide +kernel
theorem dX10_method_15 : decode cX10_method 15 = .ok (.getfield 75, 3) := by decide +kernel
theorem dX10_method_18 : decode cX10_method 18 = .ok (.bipush 8, 2) := by decide +kernel
theorem dX10_method_20 : decode cX10_method 20 = .ok (.if_icmp .ne 6, 3) := by decide +kernel
theorem dX10_method_23 : decode cX10_method 23 = .ok (.bipush (-3), 2) := by decide +kernel
theorem dX10_method_25 : decode cX10_method 25 = .ok (.ireturn, 1) := by decide +kernel
theorem dX10_method_26 : decode cX10_method 26 = .ok (.aload_n 0, 1) := by decide +kernel
theorem dX10_method_27 : decode cX10_method 27 = .ok (.getfield 7, 3) := by decide +kernel
theorem dX10_method_30 : decode cX10_method 30 = .ok (.aload_n 0, 1) := by decide +kernel
theorem dX10_method_31 : decode cX10_method 31 = .ok (.getfield 75, 3) := by decide +kernel
theorem dX10_method_34 : decode cX10_method 34 = .ok (.iload_n 1, 1) := by decide +kernel
theorem dX10_method_35 : decode cX10_method 35 = .ok (.iastore, 1) := by decide +kernel
theorem dX10_method_36 : decode cX10_method 36 = .ok (.iconst 0, 1) := by decide +kernel
theorem dX10_method_37 : decode cX10_method 37 = .ok (.istore_n 2, 1) := by decide +kernel
theorem dX10_method_38 : decode cX10_method 38 = .ok (.iload_n 2, 1) := by decide +kernel
theorem dX10_method_39 : decode cX10_method 39 = .ok (.bipush 40, 2) := by decide +kernel
theorem dX10_method_41 : decode cX10_method 41 = .ok (.if_icmp .ge 24, 3) := by decide +kernel
theorem dX10_method_44 : decode cX10_method 44 = .ok (.aload_n 0, 1) := by decide +kernel
theorem dX10_method_45 : decode cX10_method 45 = .ok (.getfield 29, 3) := by decide +kernel
theorem dX10_method_48 : decode cX10_method 48 = .ok (.bipush 40, 2) := by decide +kernel
theorem dX10_method_50 : decode cX10_method 50 = .ok (.aload_n 0, 1) := by decide +kernel
theorem dX10_method_51 : decode cX10_method 51 = .ok (.getfield 75, 3) := by decide +kernel
theorem dX10_method_54 : decode cX10_method 54 = .ok (.imul, 1) := by decide +kernel
theorem dX10_method_55 : decode cX10_method 55 = .ok (.iload_n 2, 1) := by decide +kernel
theorem dX10_method_56 : decode cX10_method 56 = .ok (.iadd, 1) := by decide +kernel
theorem dX10_method_57 : decode cX10_method 57 = .ok (.iconst (-1), 1) := by decide +kernel
theorem dX10_method_58 : decode cX10_method 58 = .ok (.iastore, 1) := by decide +kernel
theorem dX10_method_59 : decode cX10_method 59 = .ok (.iinc 2 1, 3) := by decide +kernel
theorem dX10_method_62 : decode cX10_method 62 = .ok (.goto (-24), 3) := by decide +kernel
theorem dX10_method_65 : decode cX10_method 65 = .ok (.aload_n 0, 1) := by decide +kernel
theorem dX10_method_66 : decode cX10_method 66 = .ok (.dup, 1) := by decide +kernel
theorem dX10_method_67 : decode cX10_method 67 = .ok (.getfield 75, 3) := by decide +kernel
theorem dX10_method_70 : decode cX10_method 70 = .ok (.iconst 1, 1) := by decide +kernel
theorem dX10_method_71 : decode cX10_method 71 = .ok (.iadd, 1) := by decide +kernel
theorem dX10_method_72 : decode cX10_method 72 = .ok (.putfield 75, 3) := by decide +kernel
theorem dX10_method_75 : decode cX10_method 75 = .ok (.aload_n 0, 1) := by decide +kernel
theorem dX10_method_76 : decode cX10_method 76 = .ok (.getfield 75, 3) := by decide +kernel
theorem dX10_method_79 : decode cX10_method 79 = .ok (.iconst 1, 1) := by decide +kernel
theorem dX10_method_80 : decode cX10_method 80 = .ok (.isub, 1) := by decide +kernel
theorem dX10_method_81 : decode cX10_method 81 = .ok (.ireturn, 1) := by decide +kernel
theorem dX10_op_0 : decode cX10_op 0 = .ok (.aload_n 0, 1) := by decide +kernel
theorem dX10_op_1 : decode cX10_op 1 = .ok (.iload_n 1, 1) := by decide +kernel
theorem dX10_op_2 : decode cX10_op 2 = .ok (.invokevirtual 130, 3) := by decide +kernel
theorem dX10_op_5 : decode cX10_op 5 = .ok (.ifCond .ne 5, 3) := by decide +kernel
theorem dX10_op_8 : decode cX10_op 8 = .ok (.iconst (-1), 1) := by decide +kernel
theorem dX10_op_9 : decode cX10_op 9 = .ok (.ireturn, 1) := by decide +kernel
theorem dX10_op_10 : decode cX10_op 10 = .ok (.aload_n 0, 1) := by decide +kernel
theorem dX10_op_11 : decode cX10_op 11 = .ok (.getfield 13, 3) := by decide +kernel
theorem dX10_op_14 : decode cX10_op 14 = .ok (.iload_n 1, 1) := by decide +kernel
theorem dX10_op_15 : decode cX10_op 15 = .ok (.iaload, 1) := by decide +kernel
theorem dX10_op_16 : decode cX10_op 16 = .ok (.bipush 40, 2) := by decide +kernel
theorem dX10_op_18 : decode cX10_op 18 = .ok (.if_icmp .ne 6, 3) := by decide +kernel
theorem dX10_op_21 : decode cX10_op 21 = .ok (.bipush (-3), 2) := by decide +kernel
theorem dX10_op_23 : decode cX10_op 23 = .ok (.ireturn, 1) := by decide +kernel
theorem dX10_op_24 : decode cX10_op 24 = .ok (.aload_n 0, 1) := by decide +kernel
theorem dX10_op_25 : decode cX10_op 25 = .ok (.getfield 16, 3) := by decide +kernel
theorem dX10_op_28 : decode cX10_op 28 = .ok (.bipush 40, 2) := by decide +kernel
theorem dX10_op_30 : decode cX10_op 30 = .ok (.iload_n 1, 1) := by decide +kernel
theorem dX10_op_31 : decode cX10_op 31 = .ok (.imul, 1) := by decide +kernel
theorem dX10_op_32 : decode cX10_op 32 = .ok (.aload_n 0, 1) := by decide +kernel
theorem dX10_op_33 : decode cX10_op 33 = .ok (.getfield 13, 3) := by decide +kernel
theorem dX10_op_36 : decode cX10_op 36 = .ok (.iload_n 1, 1) := by decide +kernel
theorem dX10_op_37 : decode cX10_op 37 = .ok (.iaload, 1) := by decide +kernel
theorem dX10_op_38 : decode cX10_op 38 = .ok (.iadd, 1) := by decide +kernel
theorem dX10_op_39 : decode cX10_op 39 = .ok (.iload_n 2, 1) := by decide +kernel
theorem dX10_op_40 : decode cX10_op 40 = .ok (.iastore, 1) := by decide +kernel
theorem dX10_op_41 : decode cX10_op 41 = .ok (.aload_n 0, 1) := by decide +kernel
theorem dX10_op_42 : decode cX10_op 42 = .ok (.getfield 19, 3) := by decide +kernel
theorem dX10_op_45 : decode cX10_op 45 = .ok (.bipush 40, 2) := by decide +kernel
theorem dX10_op_47 : decode cX10_op 47 = .ok (.iload_n 1, 1) := by decide +kernel
theorem dX10_op_48 : decode cX10_op 48 = .ok (.imul, 1) := by decide +kernel
theorem dX10_op_49 : decode cX10_op 49 = .ok (.aload_n 0, 1) := by decide +kernel
theorem dX10_op_50 : decode cX10_op 50 = .ok (.getfield 13, 3) := by decide +kernel
theorem dX10_op_53 : decode cX10_op 53 = .ok (.iload_n 1, 1) := by decide +kernel
theorem dX10_op_54 : decode cX10_op 54 = .ok (.iaload, 1) := by decide +kernel
theorem dX10_op_55 : decode cX10_op 55 = .ok (.iadd, 1) := by decide +kernel
theorem dX10_op_56 : decode cX10_op 56 = .ok (.lload_n 3, 1) := by decide +kernel
theorem dX10_op_57 : decode cX10_op 57 = .ok (.lastore, 1) := by decide +kernel
theorem dX10_op_58 : decode cX10_op 58 = .ok (.aload_n 0, 1) := by decide +kernel
theorem dX10_op_59 : decode cX10_op 59 = .ok (.getfield 13, 3) := by decide +kernel
theorem dX10_op_62 : decode cX10_op 62 = .ok (.iload_n 1, 1) := by decide +kernel
theorem dX10_op_63 : decode cX10_op 63 = .ok (.dup2, 1) := by decide +kernel
theorem dX10_op_64 : decode cX10_op 64 = .ok (.iaload, 1) := by decide +kernel
theorem dX10_op_65 : decode cX10_op 65 = .ok (.iconst 1, 1) := by decide +kernel
theorem dX10_op_66 : decode cX10_op 66 = .ok (.iadd, 1) := by decide +kernel
theorem dX10_op_67 : decode cX10_op 67 = .ok (.iastore, 1) := by decide +kernel
theorem dX10_op_68 : decode cX10_op 68 = .ok (.aload_n 0, 1) := by decide +kernel
theorem dX10_op_69 : decode cX10_op 69 = .ok (.iload_n 1, 1) := by decide +kernel
theorem dX10_op_70 : decode cX10_op 70 = .ok (.invokevirtual 133, 3) := by decide +kernel
theorem dX10_op_73 : decode cX10_op 73 = .ok (.aload_n 0, 1) := by decide +kernel
theorem dX10_op_74 : decode cX10_op 74 = .ok (.getfield 13, 3) := by decide +kernel
theorem dX10_op_77 : decode cX10_op 77 = .ok (.iload_n 1, 1) := by decide +kernel
theorem dX10_op_78 : decode cX10_op 78 = .ok (.iaload, 1) := by decide +kernel
theorem dX10_op_79 : decode cX10_op 79 = .ok (.iconst 1, 1) := by decide +kernel
theorem dX10_op_80 : decode cX10_op 80 = .ok (.isub, 1) := by decide +kernel
theorem dX10_op_81 : decode cX10_op 81 = .ok (.ireturn, 1) := by decide +kernel
