theorem dX4_init_15 : decode cX4_init 15 = .ok (.aload_n 0, 1) := by decide +kernel
theorem dX4_init_16 : decode cX4_init 16 = .ok (.bipush 8, 2) := by decide +kernel
theorem dX4_init_18 : decode cX4_init 18 = .ok (.anewarray 20, 3) := by decide +kernel
theorem dX4_init_21 : decode cX4_init 21 = .ok (.putfield 22, 3) := by decide +kernel
theorem dX4_init_24 : decode cX4_init 24 = .ok (.aload_n 0, 1) := by decide +kernel
theorem dX4_init_25 : decode cX4_init 25 = .ok (.bipush 8, 2) := by decide +kernel
theorem dX4_init_27 : decode cX4_init 27 = .ok (.newarray .int, 2) := by decide +kernel
theorem dX4_init_29 : decode cX4_init 29 = .ok (.putfield 26, 3) := by decide +kernel
theorem dX4_init_32 : decode cX4_init 32 = .ok (.aload_n 0, 1) := by decide +kernel
theorem dX4_init_33 : decode cX4_init 33 = .ok (.bipush 8, 2) := by decide +kernel
theorem dX4_init_35 : decode cX4_init 35 = .ok (.newarray .int, 2) := by decide +kernel
theorem dX4_init_37 : decode cX4_init 37 = .ok (.putfield 30, 3) := by decide +kernel
theorem dX4_init_40 : decode cX4_init 40 = .ok (.aload_n 0, 1) := by decide +kernel
theorem dX4_init_41 : decode cX4_init 41 = .ok (.bipush 64, 2) := by decide +kernel
theorem dX4_init_43 : decode cX4_init 43 = .ok (.newarray .long, 2) := by decide +kernel
theorem dX4_init_45 : decode cX4_init 45 = .ok (.putfield 35, 3) := by decide +kernel
theorem dX4_init_48 : decode cX4_init 48 = .ok (.aload_n 0, 1) := by decide +kernel
theorem dX4_init_49 : decode cX4_init 49 = .ok (.bipush 64, 2) := by decide +kernel
theorem dX4_init_51 : decode cX4_init 51 = .ok (.newarray .long, 2) := by decide +kernel
theorem dX4_init_53 : decode cX4_init 53 = .ok (.putfield 39, 3) := by decide +kernel
theorem dX4_init_56 : decode cX4_init 56 = .ok (.aload_n 0, 1) := by decide +kernel
theorem dX4_init_57 : decode cX4_init 57 = .ok (.ldc 42, 2) := by decide +kernel
theorem dX4_init_59 : decode cX4_init 59 = .ok (.putfield 43, 3) := by decide +kernel
theorem dX4_init_62 : decode cX4_init 62 = .ok (.aload_n 0, 1) := by decide +kernel
theorem dX4_init_63 : decode cX4_init 63 = .ok (.ldc 42, 2) := by decide +kernel
theorem dX4_init_65 : decode cX4_init 65 = .ok (.putfield 47, 3) := by decide +kernel
theorem dX4_init_68 : decode cX4_init 68 = .ok (.return_, 1) := by decide +kernel
theorem dX7_init_0 : decode cX7_init 0 = .ok (.aload_n 0, 1) := by decide +kernel
theorem dX7_init_1 : decode cX7_init 1 = .ok (.invokespecial 3, 3) := by decide +kernel
theorem dX7_init_4 : decode cX7_init 4 = .ok (.aload_n 0, 1) := by decide +kernel
theorem dX7_init_5 : decode cX7_init 5 = .ok (.bipush 8, 2) := by decide +kernel
theorem dX7_init_7 : decode cX7_init 7 = .ok (.anewarray 11, 3) := by decide +kernel
theorem dX7_init_10 : decode cX7_init 10 = .ok (.putfield 13, 3) := by decide +kernel
theorem dX7_init_13 : decode cX7_init 13 = .ok (.return_, 1) := by decide +kernel
theorem dX8_init_0 : decode cX8_init 0 = .ok (.aload_n 0, 1) := by decide +kernel
theorem dX8_init_1 : decode cX8_init 1 = .ok (.invokespecial 1, 3) := by decide +kernel
theorem dX8_init_4 : decode cX8_init 4 = .ok (.aload_n 0, 1) := by decide +kernel
theorem dX8_init_5 : decode cX8_init 5 = .ok (.new 7, 3) := by decide +kernel
theorem dX8_init_8 : decode cX8_init 8 = .ok (.dup, 1) := by decide +kernel
theorem dX8_init_9 : decode cX8_init 9 = .ok (.invokespecial 9, 3) := by decide +kernel
theorem dX8_init_12 : decode cX8_init 12 = .ok (.putfield 10, 3) := by decide +kernel
theorem dX8_init_15 : decode cX8_init 15 = .ok (.return_, 1) := by decide +kernel
theorem dX9_init_0 : decode cX9_init 0 = .ok (.aload_n 0, 1) := by decide +kernel
theorem dX9_init_1 : decode cX9_init 1 = .ok (.invokespecial 1, 3) := by decide +kernel
theorem dX9_init_4 : decode cX9_init 4 = .ok (.aload_n 0, 1) := by decide +kernel
theorem dX9_init_5 : decode cX9_init 5 = .ok (.new 7, 3) := by decide +kernel
theorem dX9_init_8 : decode cX9_init 8 = .ok (.dup, 1) := by decide +kernel
theorem dX9_init_9 : decode cX9_init 9 = .ok (.invokespecial 9, 3) := by decide +kernel
theorem dX9_init_12 : decode cX9_init 12 = .ok (.putfield 10, 3) := by decide +kernel
theorem dX9_init_15 : decode cX9_init 15 = .ok (.aload_n 0, 1) := by decide +kernel
theorem dX9_init_16 : decode cX9_init 16 = .ok (.new 16, 3) := by decide +kernel
theorem dX9_init_19 : decode cX9_init 19 = .ok (.dup, 1) := by decide +kernel
theorem dX9_init_20 : decode cX9_init 20 = .ok (.invokespecial 18, 3) := by decide +kernel
theorem dX9_init_23 : decode cX9_init 23 = .ok (.putfield 19, 3) := by decide +kernel
theorem dX9_init_26 : decode cX9_init 26 = .ok (.aload_n 0, 1) := by decide +kernel
theorem dX9_init_27 : decode cX9_init 27 = .ok (.new 23, 3) := by decide +kernel
theorem dX9_init_30 : decode cX9_init 30 = .ok (.dup, 1) := by decide +kernel
theorem dX9_init_31 : decode cX9_init 31 = .ok (.invokespecial 25, 3) := by decide +kernel
theorem dX9_init_34 : decode cX9_init 34 = .ok (.putfield 26, 3) := by decide +kernel
theorem dX9_init_37 : decode cX9_init 37 = .ok (.return_, 1) := by decide +kernel
theorem dX0_init_0 : decode cX0_init 0 = .ok (.aload_n 0, 1) := by decide +kernel
theorem dX0_init_1 : decode cX0_init 1 = .ok (.invokespecial 3, 3) := by decide +kernel
theorem dX0_init_4 : decode cX0_init 4 = .ok (.aload_n 0, 1) := by decide +kernel
theorem dX0_init_5 : decode cX0_init 5 = .ok (.bipush 40, 2) := by decide +kernel
theorem dX0_init_7 : decode cX0_init 7 = .ok (.newarray .int, 2) := by decide +kernel
theorem dX0_init_9 : decode cX0_init 9 = .ok (.putfield 11, 3) := by decide +kernel
theorem dX0_init_12 : decode cX0_init 12 = .ok (.aload_n 0, 1) := by decide +kernel
theorem dX0_init_13 : decode cX0_init 13 = .ok (.bipush 40, 2) := by decide +kernel
theorem dX0_init_15 : decode cX0_init 15 = .ok (.newarray .long, 2) := by decide +kernel
theorem dX0_init_17 : decode cX0_init 17 = .ok (.putfield 15, 3) := by decide +kernel
theorem dX0_init_20 : decode cX0_init 20 = .ok (.aload_n 0, 1) := by decide +kernel
theorem dX0_init_21 : decode cX0_init 21 = .ok (.bipush 6, 2) := by decide +kernel
theorem dX0_init_23 : decode cX0_init 23 = .ok (.newarray .int, 2) := by decide +kernel
theorem dX0_init_25 : decode cX0_init 25 = .ok (.putfield 19, 3) := by decide +kernel
theorem dX0_init_28 : decode cX0_init 28 = .ok (.aload_n 0, 1) := by decide +kernel
theorem dX0_init_29 : decode cX0_init 29 = .ok (.bipush 6, 2) := by decide +kernel
theorem dX0_init_31 : decode cX0_init 31 = .ok (.newarray .int, 2) := by decide +kernel
theorem dX0_init_33 : decode cX0_init 33 = .ok (.putfield 22, 3) := by decide +kernel
theorem dX0_init_36 : decode cX0_init 36 = .ok (.aload_n 0, 1) := by decide +kernel
theorem dX0_init_37 : decode cX0_init 37 = .ok (.bipush 6, 2) := by decide +kernel
theorem dX0_init_39 : decode cX0_init 39 = .ok (.newarray .int, 2) := by decide +kernel
theorem dX0_init_41 : decode cX0_init 41 = .ok (.putfield 25, 3) := by decide +kernel
theorem dX0_init_44 : decode cX0_init 44 = .ok (.aload_n 0, 1) := by decide +kernel
theorem dX0_init_45 : decode cX0_init 45 = .ok (.bipush 6, 2) := by decide +kernel
theorem dX0_init_47 : decode cX0_init 47 = .ok (.newarray .int, 2) := by decide +kernel
theorem dX0_init_49 : decode cX0_init 49 = .ok (.putfield 28, 3) := by decide +kernel
theorem dX0_init_52 : decode cX0_init 52 = .ok (.aload_n 0, 1) := by decide +kernel
theorem dX0_init_53 : decode cX0_init 53 = .ok (.bipush 40, 2) := by decide +kernel
theorem dX0_init_55 : decode cX0_init 55 = .ok (.anewarray 31, 3) := by decide +kernel
theorem dX0_init_58 : decode cX0_init 58 = .ok (.putfield 33, 3) := by decide +kernel
theorem dX0_init_61 : decode cX0_init 61 = .ok (.aload_n 0, 1) := by decide +kernel
theorem dX0_init_62 : decode cX0_init 62 = .ok (.iload_n 1, 1) := by decide +kernel
theorem dX0_init_63 : decode cX0_init 63 = .ok (.putfield 37, 3) := by decide +kernel
theorem dX0_init_66 : decode cX0_init 66 = .ok (.aload_n 0, 1) := by decide +kernel
theorem dX0_init_67 : decode cX0_init 67 = .ok (.iload_n 2, 1) := by decide +kernel
theorem dX0_init_68 : decode cX0_init 68 = .ok (.putfield 41, 3) := by decide +kernel
theorem dX0_init_71 : decode cX0_init 71 = .ok (.return_, 1) := by decide +kernel
theorem dX7_at_0 : decode cX7_at 0 = .ok (.lload_n 1, 1) := by decide +kernel
theorem dX7_at_1 : decode cX7_at 1 = .ok (.lconst 0, 1) := by decide +kernel
theorem dX7_at_2 : decode cX7_at 2 = .ok (.lcmp, 1) := by decide +kernel
theorem dX7_at_3 : decode cX7_at 3 = .ok (.ifCond .lt 23, 3) := by decide +kernel
theorem dX7_at_6 : decode cX7_at 6 = .ok (.lload_n 1, 1) := by decide +kernel
theorem dX7_at_7 : decode cX7_at 7 = .ok (.aload_n 0, 1) := by decide +kernel
theorem dX7_at_8 : decode cX7_at 8 = .ok (.getfield 17, 3) := by decide +kernel
theorem dX7_at_11 : decode cX7_at 11 = .ok (.i2l, 1) := by decide +kernel
theorem dX7_at_12 : decode cX7_at 12 = .ok (.lcmp, 1) := by decide +kernel
theorem dX7_at_13 : decode cX7_at 13 = .ok (.ifCond .ge 13, 3) := by decide +kernel
theorem dX7_at_16 : decode cX7_at 16 = .ok (.aload_n 0, 1) := by decide +kernel
theorem dX7_at_17 : decode cX7_at 17 = .ok (.getfield 13, 3) := by decide +kernel
theorem dX7_at_20 : decode cX7_at 20 = .ok (.lload_n 1, 1) := by decide +kernel
theorem dX7_at_21 : decode cX7_at 21 = .ok (.l2i, 1) := by decide +kernel
theorem dX7_at_22 : decode cX7_at 22 = .ok (.aaload, 1) := by decide +kernel
theorem dX7_at_23 : decode cX7_at 23 = .ok (.goto 4, 3) := by decide +kernel
theorem dX7_at_26 : decode cX7_at 26 = .ok (.aconst_null, 1) := by decide +kernel
theorem dX7_at_27 : decode cX7_at 27 = .ok (.areturn, 1) := by decide +kernel
theorem dX7_add_0 : decode cX7_add 0 = .ok (.aload_n 0, 1) := by decide +kernel
theorem dX7_add_1 : decode cX7_add 1 = .ok (.getfield 17, 3) := by decide +kernel
theorem dX7_add_4 : decode cX7_add 4 = .ok (.bipush 8, 2) := by decide +kernel
theorem dX7_add_6 : decode cX7_add 6 = .ok (.if_icmp .lt 6, 3) := by decide +kernel
theorem dX7_add_9 : decode cX7_add 9 = .ok (.bipush (-3), 2) := by decide +kernel
theorem dX7_add_11 : decode cX7_add 11 = .ok (.ireturn, 1) := by decide +kernel
theorem dX7_add_12 : decode cX7_add 12 = .ok (.aload_n 0, 1) := by decide +kernel
theorem dX7_add_13 : decode cX7_add 13 = .ok (.getfield 13, 3) := by decide +kernel
theorem dX7_add_16 : decode cX7_add 16 = .ok (.aload_n 0, 1) := by decide +kernel
theorem dX7_add_17 : decode cX7_add 17 = .ok (.getfield 17, 3) := by decide +kernel
theorem dX7_add_20 : decode cX7_add 20 = .ok (.new 11, 3) := by decide +kernel
theorem dX7_add_23 : decode cX7_add 23 = .ok (.dup, 1) := by decide +kernel
theorem dX7_add_24 : decode cX7_add 24 = .ok (.aload_n 0, 1) := by decide +kernel
theorem dX7_add_25 : decode cX7_add 25 = .ok (.getfield 17, 3) := by decide +kernel
theorem dX7_add_28 : decode cX7_add 28 = .ok (.iload_n 1, 1) := by decide +kernel
theorem dX7_add_29 : decode cX7_add 29 = .ok (.invokespecial 21, 3) := by decide +kernel
theorem dX7_add_32 : decode cX7_add 32 = .ok (.aastore, 1) := by decide +kernel
theorem dX7_add_33 : decode cX7_add 33 = .ok (.aload_n 0, 1) := by decide +kernel
theorem dX7_add_34 : decode cX7_add 34 = .ok (.dup, 1) := by decide +kernel
theorem dX7_add_35 : decode cX7_add 35 = .ok (.getfield 17, 3) := by decide +kernel
theorem dX7_add_38 : decode cX7_add 38 = .ok (.iconst 1, 1) := by decide +kernel
theorem dX7_add_39 : decode cX7_add 39 = .ok (.iadd, 1) := by decide +kernel
theorem dX7_add_40 : decode cX7_add 40 = .ok (.putfield 17, 3) := by decide +kernel
theorem dX7_add_43 : decode cX7_add 43 = .ok (.aload_n 0, 1) := by decide +kernel
theorem dX7_add_44 : decode cX7_add 44 = .ok (.getfield 17, 3) := by decide +kernel
theorem dX7_add_47 : decode cX7_add 47 = .ok (.iconst 1, 1) := by decide +kernel
theorem dX7_add_48 : decode cX7_add 48 = .ok (.isub, 1) := by decide +kernel
theorem dX7_add_49 : decode cX7_add 49 = .ok (.ireturn, 1) := by decide +kernel
theorem dX2_kindAhead_0 : decode cX2_kindAhead 0 = .ok (.iload_n 1, 1) := by decide +kernel
theorem dX2_kindAhead_1 : decode cX2_kindAhead 1 = .ok (.ifCond .lt 30, 3) := by decide +kernel
theorem dX2_kindAhead_4 : decode cX2_kindAhead 4 = .ok (.iload_n 1, 1) := by decide +kernel
theorem dX2_kindAhead_5 : decode cX2_kindAhead 5 = .ok (.aload_n 0, 1) := by decide +kernel
theorem dX2_kindAhead_6 : decode cX2_kindAhead 6 = .ok (.getfield 31, 3) := by decide +kernel
theorem dX2_kindAhead_9 : decode cX2_kindAhead 9 = .ok (.if_icmp .ge 22, 3) := by decide +kernel
theorem dX2_kindAhead_12 : decode cX2_kindAhead 12 = .ok (.iload_n 1, 1) := by decide +kernel
theorem dX2_kindAhead_13 : decode cX2_kindAhead 13 = .ok (.bipush 40, 2) := by decide +kernel
theorem dX2_kindAhead_15 : decode cX2_kindAhead 15 = .ok (.if_icmp .ge 16, 3) := by decide +kernel
theorem dX2_kindAhead_18 : decode cX2_kindAhead 18 = .ok (.aload_n 0, 1) := by decide +kernel
theorem dX2_kindAhead_19 : decode cX2_kindAhead 19 = .ok (.getfield 13, 3) := by decide +kernel
theorem dX2_kindAhead_22 : decode cX2_kindAhead 22 = .ok (.iload_n 1, 1) := by decide +kernel
theorem dX2_kindAhead_23 : decode cX2_kindAhead 23 = .ok (.aaload, 1) := by decide +kernel
theorem dX2_kindAhead_24 : decode cX2_kindAhead 24 = .ok (.iload_n 2, 1) := by decide +kernel
theorem dX2_kindAhead_25 : decode cX2_kindAhead 25 = .ok (.invokevirtual 35, 3) := by decide +kernel
theorem dX2_kindAhead_28 : decode cX2_kindAhead 28 = .ok (.ifCond .ne 6, 3) := by decide +kernel
theorem dX2_kindAhead_31 : decode cX2_kindAhead 31 = .ok (.ldc 39, 2) := by decide +kernel
theorem dX2_kindAhead_33 : decode cX2_kindAhead 33 = .ok (.ireturn, 1) := by decide +kernel
theorem dX2_kindAhead_34 : decode cX2_kindAhead 34 = .ok (.aload_n 0, 1) := by decide +kernel
theorem dX2_kindAhead_35 : decode cX2_kindAhead 35 = .ok (.getfield 13, 3) := by decide +kernel
theorem dX2_kindAhead_38 : decode cX2_kindAhead 38 = .ok (.iload_n 1, 1) := by decide +kernel
theorem dX2_kindAhead_39 : decode cX2_kindAhead 39 = .ok (.aaload, 1) := by decide +kernel
theorem dX2_kindAhead_40 : decode cX2_kindAhead 40 = .ok (.getfield 40, 3) := by decide +kernel
theorem dX2_kindAhead_43 : decode cX2_kindAhead 43 = .ok (.iload_n 2, 1) := by decide +kernel
theorem dX2_kindAhead_44 : decode cX2_kindAhead 44 = .ok (.iaload, 1) := by decide +kernel
theorem dX2_kindAhead_45 : decode cX2_kindAhead 45 = .ok (.ireturn, 1) := by decide +kernel
theorem dX9_method_0 : decode cX9_method 0 = .ok (.iload_n 1, 1) := by decide +kernel
theorem dX9_method_1 : decode cX9_method 1 = .ok (.ifCond .lt 8, 3) := by decide +kernel
theorem dX9_method_4 : decode cX9_method 4 = .ok (.iload_n 1, 1) := by decide +kernel
theorem dX9_method_5 : decode cX9_method 5 = .ok (.iconst 4, 1) := by decide +kernel
theorem dX9_method_6 : decode cX9_method 6 = .ok (.if_icmp .le 5, 3) := by decide +kernel
theorem dX9_method_9 : decode cX9_method 9 = .ok (.iconst (-1), 1) := by decide +kernel
theorem dX9_method_10 : decode cX9_method 10 = .ok (.ireturn, 1) := by decide +kernel
theorem dX9_method_11 : decode cX9_method 11 = .ok (.aload_n 0, 1) := by decide +kernel
theorem dX9_method_12 : decode cX9_method 12 = .ok (.getfield 10, 3) := by decide +kernel
theorem dX9_method_15 : decode cX9_method 15 = .ok (.iload_n 1, 1) := by decide +kernel
theorem dX9_method_16 : decode cX9_method 16 = .ok (.invokevirtual 30, 3) := by decide +kernel
theorem dX9_method_19 : decode cX9_method 19 = .ok (.ireturn, 1) := by decide +kernel
theorem dX9_op_0 : decode cX9_op 0 = .ok (.aload_n 0, 1) := by decide +kernel
theorem dX9_op_1 : decode cX9_op 1 = .ok (.getfield 10, 3) := by decide +kernel
theorem dX9_op_4 : decode cX9_op 4 = .ok (.iload_n 1, 1) := by decide +kernel
theorem dX9_op_5 : decode cX9_op 5 = .ok (.i2l, 1) := by decide +kernel
theorem dX9_op_6 : decode cX9_op 6 = .ok (.invokevirtual 34, 3) := by decide +kernel
theorem dX9_op_9 : decode cX9_op 9 = .ok (.astore 5, 2) := by decide +kernel
theorem dX9_op_11 : decode cX9_op 11 = .ok (.aload 5, 2) := by decide +kernel
theorem dX9_op_13 : decode cX9_op 13 = .ok (.ifnonnull 5, 3) := by decide +kernel
theorem dX9_op_16 : decode cX9_op 16 = .ok (.iconst (-1), 1) := by decide +kernel
theorem dX9_op_17 : decode cX9_op 17 = .ok (.ireturn, 1) := by decide +kernel
theorem dX9_op_18 : decode cX9_op 18 = .ok (.aload 5, 2) := by decide +kernel
theorem dX9_op_20 : decode cX9_op 20 = .ok (.iload_n 2, 1) := by decide +kernel
theorem dX9_op_21 : decode cX9_op 21 = .ok (.lload_n 3, 1) := by decide +kernel
theorem dX9_op_22 : decode cX9_op 22 = .ok (.invokevirtual 38, 3) := by decide +kernel
theorem dX9_op_25 : decode cX9_op 25 = .ok (.ireturn, 1) := by decide +kernel
theorem dX9_handler_0 : decode cX9_handler 0 = .ok (.aload_n 0, 1) := by decide +kernel
theorem dX9_handler_1 : decode cX9_handler 1 = .ok (.getfield 10, 3) := by decide +kernel
theorem dX9_handler_4 : decode cX9_handler 4 = .ok (.iload_n 1, 1) := by decide +kernel
theorem dX9_handler_5 : decode cX9_handler 5 = .ok (.i2l, 1) := by decide +kernel
theorem dX9_handler_6 : decode cX9_handler 6 = .ok (.invokevirtual 34, 3) := by decide +kernel
theorem dX9_handler_9 : decode cX9_handler 9 = .ok (.astore 6, 2) := by decide +kernel
theorem dX9_handler_11 : decode cX9_handler 11 = .ok (.aload 6, 2) := by decide +kernel
theorem dX9_handler_13 : decode cX9_handler 13 = .ok (.ifnull 18, 3) := by decide +kernel
theorem dX9_handler_16 : decode cX9_handler 16 = .ok (.iload_n 2, 1) := by decide +kernel
theorem dX9_handler_17 : decode cX9_handler 17 = .ok (.ifCond .lt 14, 3) := by decide +kernel
theorem dX9_handler_20 : decode cX9_handler 20 = .ok (.iload_n 2, 1) := by decide +kernel
theorem dX9_handler_21 : decode cX9_handler 21 = .ok (.iload_n 3, 1) := by decide +kernel
theorem dX9_handler_22 : decode cX9_handler 22 = .ok (.if_icmp .ge 9, 3) := by decide +kernel
theorem dX9_handler_25 : decode cX9_handler 25 = .ok (.iload_n 3, 1) := by decide +kernel
theorem dX9_handler_26 : decode cX9_handler 26 = .ok (.bipush 40, 2) := by decide +kernel
theorem dX9_handler_28 : decode cX9_handler 28 = .ok (.if_icmp .le 5, 3) := by decide +kernel
theorem dX9_handler_31 : decode cX9_handler 31 = .ok (.iconst (-1), 1) := by decide +kernel
theorem dX9_handler_32 : decode cX9_handler 32 = .ok (.ireturn, 1) := by decide +kernel
theorem dX9_handler_33 : decode cX9_handler 33 = .ok (.iload 4, 2) := by decide +kernel
theorem dX9_handler_35 : decode cX9_handler 35 = .ok (.ifCond .lt 22, 3) := by decide +kernel
theorem dX9_handler_38 : decode cX9_handler 38 = .ok (.iload 4, 2) := by decide +kernel
theorem dX9_handler_40 : decode cX9_handler 40 = .ok (.bipush 40, 2) := by decide +kernel
theorem dX9_handler_42 : decode cX9_handler 42 = .ok (.if_icmp .ge 15, 3) := by decide +kernel
theorem dX9_handler_45 : decode cX9_handler 45 = .ok (.iload 5, 2) := by decide +kernel
theorem dX9_handler_47 : decode cX9_handler 47 = .ok (.ifCond .lt 10, 3) := by decide +kernel
theorem dX9_handler_50 : decode cX9_handler 50 = .ok (.iload 5, 2) := by decide +kernel
theorem dX9_handler_52 : decode cX9_handler 52 = .ok (.bipush 7, 2) := by decide +kernel
theorem dX9_handler_54 : decode cX9_handler 54 = .ok (.if_icmp .le 5, 3) := by decide +kernel
theorem dX9_handler_57 : decode cX9_handler 57 = .ok (.iconst (-1), 1) := by decide +kernel
theorem dX9_handler_58 : decode cX9_handler 58 = .ok (.ireturn, 1) := by decide +kernel
theorem dX9_handler_59 : decode cX9_handler 59 = .ok (.aload 6, 2) := by decide +kernel
theorem dX9_handler_61 : decode cX9_handler 61 = .ok (.iload_n 2, 1) := by decide +kernel
theorem dX9_handler_62 : decode cX9_handler 62 = .ok (.iload_n 3, 1) := by decide +kernel
theorem dX9_handler_63 : decode cX9_handler 63 = .ok (.iload 4, 2) := by decide +kernel
theorem dX9_handler_65 : decode cX9_handler 65 = .ok (.iload 5, 2) := by decide +kernel
theorem dX9_handler_67 : decode cX9_handler 67 = .ok (.invokevirtual 44, 3) := by decide +kernel
theorem dX9_handler_70 : decode cX9_handler 70 = .ok (.ireturn, 1) := by decide +kernel
theorem dX9_frame_0 : decode cX9_frame 0 = .ok (.aload_n 0, 1) := by decide +kernel
theorem dX9_frame_1 : decode cX9_frame 1 = .ok (.getfield 10, 3) := by decide +kernel
theorem dX9_frame_4 : decode cX9_frame 4 = .ok (.iload_n 1, 1) := by decide +kernel
theorem dX9_frame_5 : decode cX9_frame 5 = .ok (.i2l, 1) := by decide +kernel
theorem dX9_frame_6 : decode cX9_frame 6 = .ok (.invokevirtual 34, 3) := by decide +kernel
theorem dX9_frame_9 : decode cX9_frame 9 = .ok (.astore 4, 2) := by decide +kernel
theorem dX9_frame_11 : decode cX9_frame 11 = .ok (.aload 4, 2) := by decide +kernel
theorem dX9_frame_13 : decode cX9_frame 13 = .ok (.ifnull 13, 3) := by decide +kernel
theorem dX9_frame_16 : decode cX9_frame 16 = .ok (.iload_n 2, 1) := by decide +kernel
theorem dX9_frame_17 : decode cX9_frame 17 = .ok (.ifCond .lt 9, 3) := by decide +kernel
theorem dX9_frame_20 : decode cX9_frame 20 = .ok (.iload_n 2, 1) := by decide +kernel
theorem dX9_frame_21 : decode cX9_frame 21 = .ok (.bipush 40, 2) := by decide +kernel
theorem dX9_frame_23 : decode cX9_frame 23 = .ok (.if_icmp .lt 5, 3) := by decide +kernel
theorem dX9_frame_26 : decode cX9_frame 26 = .ok (.iconst (-1), 1) := by decide +kernel
theorem dX9_frame_27 : decode cX9_frame 27 = .ok (.ireturn, 1) := by decide +kernel
theorem dX9_frame_28 : decode cX9_frame 28 = .ok (.iload_n 3, 1) := by decide +kernel
theorem dX9_frame_29 : decode cX9_frame 29 = .ok (.iconst (-1), 1) := by decide +kernel
theorem dX9_frame_30 : decode cX9_frame 30 = .ok (.if_icmp .lt 9, 3) := by decide +kernel
theorem dX9_frame_33 : decode cX9_frame 33 = .ok (.iload_n 3, 1) := by decide +kernel
theorem dX9_frame_34 : decode cX9_frame 34 = .ok (.bipush 8, 2) := by decide +kernel
theorem dX9_frame_36 : decode cX9_frame 36 = .ok (.if_icmp .le 5, 3) := by decide +kernel
theorem dX9_frame_39 : decode cX9_frame 39 = .ok (.iconst (-1), 1) := by decide +kernel
theorem dX9_frame_40 : decode cX9_frame 40 = .ok (.ireturn, 1) := by decide +kernel
theorem dX9_frame_41 : decode cX9_frame 41 = .ok (.aload 4, 2) := by decide +kernel
theorem dX9_frame_43 : decode cX9_frame 43 = .ok (.iload_n 2, 1) := by decide +kernel
theorem dX9_frame_44 : decode cX9_frame 44 = .ok (.iload_n 3, 1) := by decide +kernel
theorem dX9_frame_45 : decode cX9_frame 45 = .ok (.invokevirtual 50, 3) := by decide +kernel
theorem dX9_frame_48 : decode cX9_frame 48 = .ok (.iconst 0, 1) := by decide +kernel
theorem dX9_frame_49 : decode cX9_frame 49 = .ok (.ireturn, 1) := by decide +kernel
theorem dX9_set_0 : decode cX9_set 0 = .ok (.aload_n 0, 1) := by decide +kernel
theorem dX9_set_1 : decode cX9_set 1 = .ok (.getfield 10, 3) := by decide +kernel
theorem dX9_set_4 : decode cX9_set 4 = .ok (.iload_n 1, 1) := by decide +kernel
theorem dX9_set_5 : decode cX9_set 5 = .ok (.i2l, 1) := by decide +kernel
theorem dX9_set_6 : decode cX9_set 6 = .ok (.invokevirtual 34, 3) := by decide +kernel
theorem dX9_set_9 : decode cX9_set 9 = .ok (.astore 5, 2) := by decide +kernel
theorem dX9_set_11 : decode cX9_set 11 = .ok (.aload 5, 2) := by decide +kernel
theorem dX9_set_13 : decode cX9_set 13 = .ok (.ifnonnull 5, 3) := by decide +kernel
theorem dX9_set_16 : decode cX9_set 16 = .ok (.iconst (-1), 1) := by decide +kernel
theorem dX9_set_17 : decode cX9_set 17 = .ok (.ireturn, 1) := by decide +kernel
theorem dX9_set_18 : decode cX9_set 18 = .ok (.aload 5, 2) := by decide +kernel
theorem dX9_set_20 : decode cX9_set 20 = .ok (.iload_n 2, 1) := by decide +kernel
theorem dX9_set_21 : decode cX9_set 21 = .ok (.invokevirtual 54, 3) := by decide +kernel
theorem dX9_set_24 : decode cX9_set 24 = .ok (.astore 6, 2) := by decide +kernel
theorem dX9_set_26 : decode cX9_set 26 = .ok (.aload 6, 2) := by decide +kernel
theorem dX9_set_28 : decode cX9_set 28 = .ok (.ifnull 20, 3) := by decide +kernel
theorem dX9_set_31 : decode cX9_set 31 = .ok (.aload 6, 2) := by decide +kernel
theorem dX9_set_33 : decode cX9_set 33 = .ok (.iload_n 3, 1) := by decide +kernel
theorem dX9_set_34 : decode cX9_set 34 = .ok (.invokevirtual 58, 3) := by decide +kernel
theorem dX9_set_37 : decode cX9_set 37 = .ok (.ifCond .eq 11, 3) := by decide +kernel
theorem dX9_set_40 : decode cX9_set 40 = .ok (.iload 4, 2) := by decide +kernel
theorem dX9_set_42 : decode cX9_set 42 = .ok (.invokestatic 62, 3) := by decide +kernel
theorem dX9_set_45 : decode cX9_set 45 = .ok (.ifCond .ne 5, 3) := by decide +kernel
theorem dX9_set_48 : decode cX9_set 48 = .ok (.iconst (-1), 1) := by decide +kernel
theorem dX9_set_49 : decode cX9_set 49 = .ok (.ireturn, 1) := by decide +kernel
theorem dX9_set_50 : decode cX9_set 50 = .ok (.aload 5, 2) := by decide +kernel
theorem dX9_set_52 : decode cX9_set 52 = .ok (.iconst 0, 1) := by decide +kernel
theorem dX9_set_53 : decode cX9_set 53 = .ok (.putfield 67, 3) := by decide +kernel
theorem dX9_set_56 : decode cX9_set 56 = .ok (.aload 6, 2) := by decide +kernel
theorem dX9_set_58 : decode cX9_set 58 = .ok (.iload_n 3, 1) := by decide +kernel
theorem dX9_set_59 : decode cX9_set 59 = .ok (.iload 4, 2) := by decide +kernel
theorem dX9_set_61 : decode cX9_set 61 = .ok (.invokevirtual 71, 3) := by decide +kernel
theorem dX9_set_64 : decode cX9_set 64 = .ok (.ireturn, 1) := by decide +kernel
theorem dX9_judge_0 : decode cX9_judge 0 = .ok (.aload_n 0, 1) := by decide +kernel
theorem dX9_judge_1 : decode cX9_judge 1 = .ok (.getfield 10, 3) := by decide +kernel
theorem dX9_judge_4 : decode cX9_judge 4 = .ok (.iload_n 1, 1) := by decide +kernel
theorem dX9_judge_5 : decode cX9_judge 5 = .ok (.i2l, 1) := by decide +kernel
theorem dX9_judge_6 : decode cX9_judge 6 = .ok (.invokevirtual 34, 3) := by decide +kernel
