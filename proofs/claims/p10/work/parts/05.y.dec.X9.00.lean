theorem dX9_init_0 : decode cX9_init 0 = .ok (.aload_n 0, 1) := by decide +kernel
theorem dX9_init_1 : decode cX9_init 1 = .ok (.invokespecial 1, 3) := by decide +kernel
theorem dX9_init_4 : decode cX9_init 4 = .ok (.aload_n 0, 1) := by decide +kernel
theorem dX9_init_5 : decode cX9_init 5 = .ok (.new 7, 3) := by decide +kernel
theorem dX9_init_8 : decode cX9_init 8 = .ok (.dup, 1) := by decide +kernel
theorem dX9_init_9 : decode cX9_init 9 = .ok (.invokespecial 9, 3) := by decide +kernel
theorem dX9_init_12 : decode cX9_init 12 = .ok (.putfield 10, 3) := by decide +kernel
theorem dX9_init_15 : decode cX9_init 15 = .ok (.aload_n 0, 1) := by decide +kernel
theorem dX9_init_16 : decode cX9_init 16 = .ok (.new 16, 3) := by decide +kernel
theorem dX9_init_19 : decode cX9_init 19 = .ok (.dup, 1) := by decide +kernel
theorem dX9_init_20 : decode cX9_init 20 = .ok (.invokespecial 18, 3) := by decide +kernel
theorem dX9_init_23 : decode cX9_init 23 = .ok (.putfield 19, 3) := by decide +kernel
theorem dX9_init_26 : decode cX9_init 26 = .ok (.aload_n 0, 1) := by decide +kernel
theorem dX9_init_27 : decode cX9_init 27 = .ok (.new 23, 3) := by decide +kernel
theorem dX9_init_30 : decode cX9_init 30 = .ok (.dup, 1) := by decide +kernel
theorem dX9_init_31 : decode cX9_init 31 = .ok (.invokespecial 25, 3) := by decide +kernel
theorem dX9_init_34 : decode cX9_init 34 = .ok (.putfield 26, 3) := by decide +kernel
theorem dX9_init_37 : decode cX9_init 37 = .ok (.return_, 1) := by decide +kernel
theorem dX9_method_0 : decode cX9_method 0 = .ok (.iload_n 1, 1) := by decide +kernel
theorem dX9_method_1 : decode cX9_method 1 = .ok (.ifCond .lt 8, 3) := by decide +kernel
theorem dX9_method_4 : decode cX9_method 4 = .ok (.iload_n 1, 1) := by decide +kernel
theorem dX9_method_5 : decode cX9_method 5 = .ok (.iconst 4, 1) := by decide +kernel
theorem dX9_method_6 : decode cX9_method 6 = .ok (.if_icmp .le 5, 3) := by decide +kernel
theorem dX9_method_9 : decode cX9_method 9 = .ok (.iconst (-1), 1) := by decide +kernel
theorem dX9_method_10 : decode cX9_method 10 = .ok (.ireturn, 1) := by decide +kernel
theorem dX9_method_11 : decode cX9_method 11 = .ok (.aload_n 0, 1) := by decide +kernel
theorem dX9_method_12 : decode cX9_method 12 = .ok (.getfield 10, 3) := by decide +kernel
theorem dX9_method_15 : decode cX9_method 15 = .ok (.iload_n 1, 1) := by decide +kernel
theorem dX9_method_16 : decode cX9_method 16 = .ok (.invokevirtual 30, 3) := by decide +kernel
theorem dX9_method_19 : decode cX9_method 19 = .ok (.ireturn, 1) := by decide +kernel
theorem dX9_op_0 : decode cX9_op 0 = .ok (.aload_n 0, 1) := by decide +kernel
theorem dX9_op_1 : decode cX9_op 1 = .ok (.getfield 10, 3) := by decide +kernel
theorem dX9_op_4 : decode cX9_op 4 = .ok (.iload_n 1, 1) := by decide +kernel
theorem dX9_op_5 : decode cX9_op 5 = .ok (.i2l, 1) := by decide +kernel
theorem dX9_op_6 : decode cX9_op 6 = .ok (.invokevirtual 34, 3) := by decide +kernel
theorem dX9_op_9 : decode cX9_op 9 = .ok (.astore 5, 2) := by decide +kernel
theorem dX9_op_11 : decode cX9_op 11 = .ok (.aload 5, 2) := by decide +kernel
theorem dX9_op_13 : decode cX9_op 13 = .ok (.ifnonnull 5, 3) := by decide +kernel
theorem dX9_op_16 : decode cX9_op 16 = .ok (.iconst (-1), 1) := by decide +kernel
theorem dX9_op_17 : decode cX9_op 17 = .ok (.ireturn, 1) := by decide +kernel
theorem dX9_op_18 : decode cX9_op 18 = .ok (.aload 5, 2) := by decide +kernel
theorem dX9_op_20 : decode cX9_op 20 = .ok (.iload_n 2, 1) := by decide +kernel
theorem dX9_op_21 : decode cX9_op 21 = .ok (.lload_n 3, 1) := by decide +kernel
theorem dX9_op_22 : decode cX9_op 22 = .ok (.invokevirtual 38, 3) := by decide +kernel
theorem dX9_op_25 : decode cX9_op 25 = .ok (.ireturn, 1) := by decide +kernel
theorem dX9_handler_0 : decode cX9_handler 0 = .ok (.aload_n 0, 1) := by decide +kernel
theorem dX9_handler_1 : decode cX9_handler 1 = .ok (.getfield 10, 3) := by decide +kernel
theorem dX9_handler_4 : decode cX9_handler 4 = .ok (.iload_n 1, 1) := by decide +kernel
theorem dX9_handler_5 : decode cX9_handler 5 = .ok (.i2l, 1) := by decide +kernel
theorem dX9_handler_6 : decode cX9_handler 6 = .ok (.invokevirtual 34, 3) := by decide +kernel
theorem dX9_handler_9 : decode cX9_handler 9 = .ok (.astore 6, 2) := by decide +kernel
theorem dX9_handler_11 : decode cX9_handler 11 = .ok (.aload 6, 2) := by decide +kernel
theorem dX9_handler_13 : decode cX9_handler 13 = .ok (.ifnull 18, 3) := by decide +kernel
theorem dX9_handler_16 : decode cX9_handler 16 = .ok (.iload_n 2, 1) := by decide +kernel
theorem dX9_handler_17 : decode cX9_handler 17 = .ok (.ifCond .lt 14, 3) := by decide +kernel
theorem dX9_handler_20 : decode cX9_handler 20 = .ok (.iload_n 2, 1) := by decide +kernel
theorem dX9_handler_21 : decode cX9_handler 21 = .ok (.iload_n 3, 1) := by decide +kernel
theorem dX9_handler_22 : decode cX9_handler 22 = .ok (.if_icmp .ge 9, 3) := by decide +kernel
theorem dX9_handler_25 : decode cX9_handler 25 = .ok (.iload_n 3, 1) := by decide +kernel
theorem dX9_handler_26 : decode cX9_handler 26 = .ok (.bipush 40, 2) := by decide +kernel
theorem dX9_handler_28 : decode cX9_handler 28 = .ok (.if_icmp .le 5, 3) := by decide +kernel
theorem dX9_handler_31 : decode cX9_handler 31 = .ok (.iconst (-1), 1) := by decide +kernel
theorem dX9_handler_32 : decode cX9_handler 32 = .ok (.ireturn, 1) := by decide +kernel
theorem dX9_handler_33 : decode cX9_handler 33 = .ok (.iload 4, 2) := by decide +kernel
theorem dX9_handler_35 : decode cX9_handler 35 = .ok (.ifCond .lt 22, 3) := by decide +kernel
theorem dX9_handler_38 : decode cX9_handler 38 = .ok (.iload 4, 2) := by decide +kernel
theorem dX9_handler_40 : decode cX9_handler 40 = .ok (.bipush 40, 2) := by decide +kernel
theorem dX9_handler_42 : decode cX9_handler 42 = .ok (.if_icmp .ge 15, 3) := by decide +kernel
theorem dX9_handler_45 : decode cX9_handler 45 = .ok (.iload 5, 2) := by decide +kernel
theorem dX9_handler_47 : decode cX9_handler 47 = .ok (.ifCond .lt 10, 3) := by decide +kernel
theorem dX9_handler_50 : decode cX9_handler 50 = .ok (.iload 5, 2) := by decide +kernel
theorem dX9_handler_52 : decode cX9_handler 52 = .ok (.bipush 7, 2) := by decide +kernel
theorem dX9_handler_54 : decode cX9_handler 54 = .ok (.if_icmp .le 5, 3) := by decide +kernel
theorem dX9_handler_57 : decode cX9_handler 57 = .ok (.iconst (-1), 1) := by decide +kernel
theorem dX9_handler_58 : decode cX9_handler 58 = .ok (.ireturn, 1) := by decide +kernel
theorem dX9_handler_59 : decode cX9_handler 59 = .ok (.aload 6, 2) := by decide +kernel
theorem dX9_handler_61 : decode cX9_handler 61 = .ok (.iload_n 2, 1) := by decide +kernel
theorem dX9_handler_62 : decode cX9_handler 62 = .ok (.iload_n 3, 1) := by decide +kernel
theorem dX9_handler_63 : decode cX9_handler 63 = .ok (.iload 4, 2) := by decide +kernel
theorem dX9_handler_65 : decode cX9_handler 65 = .ok (.iload 5, 2) := by decide +kernel
theorem dX9_handler_67 : decode cX9_handler 67 = .ok (.invokevirtual 44, 3) := by decide +kernel
theorem dX9_handler_70 : decode cX9_handler 70 = .ok (.ireturn, 1) := by decide +kernel
theorem dX9_frame_0 : decode cX9_frame 0 = .ok (.aload_n 0, 1) := by decide +kernel
theorem dX9_frame_1 : decode cX9_frame 1 = .ok (.getfield 10, 3) := by decide +kernel
theorem dX9_frame_4 : decode cX9_frame 4 = .ok (.iload_n 1, 1) := by decide +kernel
theorem dX9_frame_5 : decode cX9_frame 5 = .ok (.i2l, 1) := by decide +kernel
theorem dX9_frame_6 : decode cX9_frame 6 = .ok (.invokevirtual 34, 3) := by decide +kernel
theorem dX9_frame_9 : decode cX9_frame 9 = .ok (.astore 4, 2) := by decide +kernel
theorem dX9_frame_11 : decode cX9_frame 11 = .ok (.aload 4, 2) := by decide +kernel
theorem dX9_frame_13 : decode cX9_frame 13 = .ok (.ifnull 13, 3) := by decide +kernel
theorem dX9_frame_16 : decode cX9_frame 16 = .ok (.iload_n 2, 1) := by decide +kernel
theorem dX9_frame_17 : decode cX9_frame 17 = .ok (.ifCond .lt 9, 3) := by decide +kernel
theorem dX9_frame_20 : decode cX9_frame 20 = .ok (.iload_n 2, 1) := by decide +kernel
theorem dX9_frame_21 : decode cX9_frame 21 = .ok (.bipush 40, 2) := by decide +kernel
theorem dX9_frame_23 : decode cX9_frame 23 = .ok (.if_icmp .lt 5, 3) := by decide +kernel
theorem dX9_frame_26 : decode cX9_frame 26 = .ok (.iconst (-1), 1) := by decide +kernel
theorem dX9_frame_27 : decode cX9_frame 27 = .ok (.ireturn, 1) := by decide +kernel
theorem dX9_frame_28 : decode cX9_frame 28 = .ok (.iload_n 3, 1) := by decide +kernel
theorem dX9_frame_29 : decode cX9_frame 29 = .ok (.iconst (-1), 1) := by decide +kernel
theorem dX9_frame_30 : decode cX9_frame 30 = .ok (.if_icmp .lt 9, 3) := by decide +kernel
theorem dX9_frame_33 : decode cX9_frame 33 = .ok (.iload_n 3, 1) := by decide +kernel
theorem dX9_frame_34 : decode cX9_frame 34 = .ok (.bipush 8, 2) := by decide +kernel
theorem dX9_frame_36 : decode cX9_frame 36 = .ok (.if_icmp .le 5, 3) := by decide +kernel
theorem dX9_frame_39 : decode cX9_frame 39 = .ok (.iconst (-1), 1) := by decide +kernel
theorem dX9_frame_40 : decode cX9_frame 40 = .ok (.ireturn, 1) := by decide +kernel
theorem dX9_frame_41 : decode cX9_frame 41 = .ok (.aload 4, 2) := by decide +kernel
theorem dX9_frame_43 : decode cX9_frame 43 = .ok (.iload_n 2, 1) := by decide +kernel
theorem dX9_frame_44 : decode cX9_frame 44 = .ok (.iload_n 3, 1) := by decide +kernel
theorem dX9_frame_45 : decode cX9_frame 45 = .ok (.invokevirtual 50, 3) := by decide +kernel
theorem dX9_frame_48 : decode cX9_frame 48 = .ok (.iconst 0, 1) := by decide +kernel
theorem dX9_frame_49 : decode cX9_frame 49 = .ok (.ireturn, 1) := by decide +kernel
theorem dX9_set_0 : decode cX9_set 0 = .ok (.aload_n 0, 1) := by decide +kernel
theorem dX9_set_1 : decode cX9_set 1 = .ok (.getfield 10, 3) := by decide +kernel
theorem dX9_set_4 : decode cX9_set 4 = .ok (.iload_n 1, 1) := by decide +kernel
theorem dX9_set_5 : decode cX9_set 5 = .ok (.i2l, 1) := by decide +kernel
theorem dX9_set_6 : decode cX9_set 6 = .ok (.invokevirtual 34, 3) := by decide +kernel
theorem dX9_set_9 : decode cX9_set 9 = .ok (.astore 5, 2) := by decide +kernel
theorem dX9_set_11 : decode cX9_set 11 = .ok (.aload 5, 2) := by decide +kernel
theorem dX9_set_13 : decode cX9_set 13 = .ok (.ifnonnull 5, 3) := by decide +kernel
theorem dX9_set_16 : decode cX9_set 16 = .ok (.iconst (-1), 1) := by decide +kernel
theorem dX9_set_17 : decode cX9_set 17 = .ok (.ireturn, 1) := by decide +kernel
theorem dX9_set_18 : decode cX9_set 18 = .ok (.aload 5, 2) := by decide +kernel
theorem dX9_set_20 : decode cX9_set 20 = .ok (.iload_n 2, 1) := by decide +kernel
theorem dX9_set_21 : decode cX9_set 21 = .ok (.invokevirtual 54, 3) := by decide +kernel
theorem dX9_set_24 : decode cX9_set 24 = .ok (.astore 6, 2) := by decide +kernel
theorem dX9_set_26 : decode cX9_set 26 = .ok (.aload 6, 2) := by decide +kernel
theorem dX9_set_28 : decode cX9_set 28 = .ok (.ifnull 20, 3) := by decide +kernel
theorem dX9_set_31 : decode cX9_set 31 = .ok (.aload 6, 2) := by decide +kernel
theorem dX9_set_33 : decode cX9_set 33 = .ok (.iload_n 3, 1) := by decide +kernel
theorem dX9_set_34 : decode cX9_set 34 = .ok (.invokevirtual 58, 3) := by decide +kernel
theorem dX9_set_37 : decode cX9_set 37 = .ok (.ifCond .eq 11, 3) := by decide +kernel
theorem dX9_set_40 : decode cX9_set 40 = .ok (.iload 4, 2) := by decide +kernel
theorem dX9_set_42 : decode cX9_set 42 = .ok (.invokestatic 62, 3) := by decide +kernel
theorem dX9_set_45 : decode cX9_set 45 = .ok (.ifCond .ne 5, 3) := by decide +kernel
theorem dX9_set_48 : decode cX9_set 48 = .ok (.iconst (-1), 1) := by decide +kernel
theorem dX9_set_49 : decode cX9_set 49 = .ok (.ireturn, 1) := by decide +kernel
theorem dX9_set_50 : decode cX9_set 50 = .ok (.aload 5, 2) := by decide +kernel
theorem dX9_set_52 : decode cX9_set 52 = .ok (.iconst 0, 1) := by decide +kernel
theorem dX9_set_53 : decode cX9_set 53 = .ok (.putfield 67, 3) := by decide +kernel
theorem dX9_set_56 : decode cX9_set 56 = .ok (.aload 6, 2) := by decide +kernel
theorem dX9_set_58 : decode cX9_set 58 = .ok (.iload_n 3, 1) := by decide +kernel
theorem dX9_set_59 : decode cX9_set 59 = .ok (.iload 4, 2) := by decide +kernel
theorem dX9_set_61 : decode cX9_set 61 = .ok (.invokevirtual 71, 3) := by decide +kernel
theorem dX9_set_64 : decode cX9_set 64 = .ok (.ireturn, 1) := by decide +kernel
theorem dX9_judge_0 : decode cX9_judge 0 = .ok (.aload_n 0, 1) := by decide +kernel
theorem dX9_judge_1 : decode cX9_judge 1 = .ok (.getfield 10, 3) := by decide +kernel
theorem dX9_judge_4 : decode cX9_judge 4 = .ok (.iload_n 1, 1) := by decide +kernel
theorem dX9_judge_5 : decode cX9_judge 5 = .ok (.i2l, 1) := by decide +kernel
theorem dX9_judge_6 : decode cX9_judge 6 = .ok (.invokevirtual 34, 3) := by decide +kernel
theorem dX9_judge_9 : decode cX9_judge 9 = .ok (.astore_n 2, 1) := by decide +kernel
theorem dX9_judge_10 : decode cX9_judge 10 = .ok (.aload_n 2, 1) := by decide +kernel
theorem dX9_judge_11 : decode cX9_judge 11 = .ok (.ifnonnull 5, 3) := by decide +kernel
theorem dX9_judge_14 : decode cX9_judge 14 = .ok (.iconst (-1), 1) := by decide +kernel
theorem dX9_judge_15 : decode cX9_judge 15 = .ok (.ireturn, 1) := by decide +kernel
theorem dX9_judge_16 : decode cX9_judge 16 = .ok (.aload_n 0, 1) := by decide +kernel
theorem dX9_judge_17 : decode cX9_judge 17 = .ok (.getfield 19, 3) := by decide +kernel
theorem dX9_judge_20 : decode cX9_judge 20 = .ok (.aload_n 0, 1) := by decide +kernel
theorem dX9_judge_21 : decode cX9_judge 21 = .ok (.getfield 10, 3) := by decide +kernel
theorem dX9_judge_24 : decode cX9_judge 24 = .ok (.aload_n 2, 1) := by decide +kernel
theorem dX9_judge_25 : decode cX9_judge 25 = .ok (.invokevirtual 75, 3) := by decide +kernel
theorem dX9_judge_28 : decode cX9_judge 28 = .ok (.istore_n 3, 1) := by decide +kernel
theorem dX9_judge_29 : decode cX9_judge 29 = .ok (.aload_n 2, 1) := by decide +kernel
theorem dX9_judge_30 : decode cX9_judge 30 = .ok (.iload_n 3, 1) := by decide +kernel
theorem dX9_judge_31 : decode cX9_judge 31 = .ok (.ifCond .ne 7, 3) := by decide +kernel
theorem dX9_judge_34 : decode cX9_judge 34 = .ok (.iconst 1, 1) := by decide +kernel
theorem dX9_judge_35 : decode cX9_judge 35 = .ok (.goto 4, 3) := by decide +kernel
theorem dX9_judge_38 : decode cX9_judge 38 = .ok (.iconst 0, 1) := by decide +kernel
theorem dX9_judge_39 : decode cX9_judge 39 = .ok (.putfield 67, 3) := by decide +kernel
theorem dX9_judge_42 : decode cX9_judge 42 = .ok (.iload_n 3, 1) := by decide +kernel
theorem dX9_judge_43 : decode cX9_judge 43 = .ok (.ireturn, 1) := by decide +kernel
theorem dX9_join_0 : decode cX9_join 0 = .ok (.aload_n 0, 1) := by decide +kernel
theorem dX9_join_1 : decode cX9_join 1 = .ok (.getfield 10, 3) := by decide +kernel
theorem dX9_join_4 : decode cX9_join 4 = .ok (.iload_n 1, 1) := by decide +kernel
theorem dX9_join_5 : decode cX9_join 5 = .ok (.i2l, 1) := by decide +kernel
theorem dX9_join_6 : decode cX9_join 6 = .ok (.invokevirtual 34, 3) := by decide +kernel
theorem dX9_join_9 : decode cX9_join 9 = .ok (.astore_n 2, 1) := by decide +kernel
theorem dX9_join_10 : decode cX9_join 10 = .ok (.aload_n 2, 1) := by decide +kernel
theorem dX9_join_11 : decode cX9_join 11 = .ok (.ifnonnull 5, 3) := by decide +kernel
theorem dX9_join_14 : decode cX9_join 14 = .ok (.iconst (-1), 1) := by decide +kernel
theorem dX9_join_15 : decode cX9_join 15 = .ok (.ireturn, 1) := by decide +kernel
theorem dX9_join_16 : decode cX9_join 16 = .ok (.aload_n 0, 1) := by decide +kernel
theorem dX9_join_17 : decode cX9_join 17 = .ok (.getfield 19, 3) := by decide +kernel
theorem dX9_join_20 : decode cX9_join 20 = .ok (.aload_n 0, 1) := by decide +kernel
theorem dX9_join_21 : decode cX9_join 21 = .ok (.getfield 10, 3) := by decide +kernel
theorem dX9_join_24 : decode cX9_join 24 = .ok (.aload_n 2, 1) := by decide +kernel
theorem dX9_join_25 : decode cX9_join 25 = .ok (.invokevirtual 79, 3) := by decide +kernel
theorem dX9_join_28 : decode cX9_join 28 = .ok (.istore_n 3, 1) := by decide +kernel
theorem dX9_join_29 : decode cX9_join 29 = .ok (.aload_n 2, 1) := by decide +kernel
theorem dX9_join_30 : decode cX9_join 30 = .ok (.iload_n 3, 1) := by decide +kernel
theorem dX9_join_31 : decode cX9_join 31 = .ok (.ifCond .ne 7, 3) := by decide +kernel
theorem dX9_join_34 : decode cX9_join 34 = .ok (.iconst 1, 1) := by decide +kernel
theorem dX9_join_35 : decode cX9_join 35 = .ok (.goto 4, 3) := by decide +kernel
theorem dX9_join_38 : decode cX9_join 38 = .ok (.iconst 0, 1) := by decide +kernel
theorem dX9_join_39 : decode cX9_join 39 = .ok (.putfield 67, 3) := by decide +kernel
theorem dX9_join_42 : decode cX9_join 42 = .ok (.iload_n 3, 1) := by decide +kernel
theorem dX9_join_43 : decode cX9_join 43 = .ok (.ireturn, 1) := by decide +kernel
theorem dX9_kind_0 : decode cX9_kind 0 = .ok (.aload_n 0, 1) := by decide +kernel
theorem dX9_kind_1 : decode cX9_kind 1 = .ok (.getfield 19, 3) := by decide +kernel
theorem dX9_kind_4 : decode cX9_kind 4 = .ok (.iload_n 1, 1) := by decide +kernel
theorem dX9_kind_5 : decode cX9_kind 5 = .ok (.iload_n 2, 1) := by decide +kernel
theorem dX9_kind_6 : decode cX9_kind 6 = .ok (.invokevirtual 82, 3) := by decide +kernel
theorem dX9_kind_9 : decode cX9_kind 9 = .ok (.ireturn, 1) := by decide +kernel
theorem dX9_rounds_0 : decode cX9_rounds 0 = .ok (.aload_n 0, 1) := by decide +kernel
theorem dX9_rounds_1 : decode cX9_rounds 1 = .ok (.getfield 19, 3) := by decide +kernel
theorem dX9_rounds_4 : decode cX9_rounds 4 = .ok (.getfield 85, 3) := by decide +kernel
theorem dX9_rounds_7 : decode cX9_rounds 7 = .ok (.ireturn, 1) := by decide +kernel
theorem dX9_kinds_0 : decode cX9_kinds 0 = .ok (.iload_n 1, 1) := by decide +kernel
theorem dX9_kinds_1 : decode cX9_kinds 1 = .ok (.invokestatic 62, 3) := by decide +kernel
theorem dX9_kinds_4 : decode cX9_kinds 4 = .ok (.ifCond .eq 10, 3) := by decide +kernel
theorem dX9_kinds_7 : decode cX9_kinds 7 = .ok (.iload_n 2, 1) := by decide +kernel
theorem dX9_kinds_8 : decode cX9_kinds 8 = .ok (.invokestatic 62, 3) := by decide +kernel
theorem dX9_kinds_11 : decode cX9_kinds 11 = .ok (.ifCond .ne 5, 3) := by decide +kernel
theorem dX9_kinds_14 : decode cX9_kinds 14 = .ok (.iconst (-1), 1) := by decide +kernel
theorem dX9_kinds_15 : decode cX9_kinds 15 = .ok (.ireturn, 1) := by decide +kernel
theorem dX9_kinds_16 : decode cX9_kinds 16 = .ok (.iload_n 3, 1) := by decide +kernel
theorem dX9_kinds_17 : decode cX9_kinds 17 = .ok (.ifCond .eq 17, 3) := by decide +kernel
theorem dX9_kinds_20 : decode cX9_kinds 20 = .ok (.iload_n 1, 1) := by decide +kernel
theorem dX9_kinds_21 : decode cX9_kinds 21 = .ok (.iload_n 2, 1) := by decide +kernel
theorem dX9_kinds_22 : decode cX9_kinds 22 = .ok (.invokestatic 89, 3) := by decide +kernel
theorem dX9_kinds_25 : decode cX9_kinds 25 = .ok (.ifCond .eq 7, 3) := by decide +kernel
theorem dX9_kinds_28 : decode cX9_kinds 28 = .ok (.iconst 1, 1) := by decide +kernel
theorem dX9_kinds_29 : decode cX9_kinds 29 = .ok (.goto 4, 3) := by decide +kernel
theorem dX9_kinds_32 : decode cX9_kinds 32 = .ok (.iconst 0, 1) := by decide +kernel
theorem dX9_kinds_33 : decode cX9_kinds 33 = .ok (.ireturn, 1) := by decide +kernel
theorem dX9_kinds_34 : decode cX9_kinds 34 = .ok (.iload_n 1, 1) := by decide +kernel
theorem dX9_kinds_35 : decode cX9_kinds 35 = .ok (.iload_n 2, 1) := by decide +kernel
theorem dX9_kinds_36 : decode cX9_kinds 36 = .ok (.invokestatic 93, 3) := by decide +kernel
theorem dX9_kinds_39 : decode cX9_kinds 39 = .ok (.ireturn, 1) := by decide +kernel
theorem dX9_run_0 : decode cX9_run 0 = .ok (.aload_n 0, 1) := by decide +kernel
theorem dX9_run_1 : decode cX9_run 1 = .ok (.getfield 10, 3) := by decide +kernel
theorem dX9_run_4 : decode cX9_run 4 = .ok (.iload_n 1, 1) := by decide +kernel
theorem dX9_run_5 : decode cX9_run 5 = .ok (.i2l, 1) := by decide +kernel
theorem dX9_run_6 : decode cX9_run 6 = .ok (.invokevirtual 34, 3) := by decide +kernel
theorem dX9_run_9 : decode cX9_run 9 = .ok (.astore 6, 2) := by decide +kernel
theorem dX9_run_11 : decode cX9_run 11 = .ok (.aload 6, 2) := by decide +kernel
theorem dX9_run_13 : decode cX9_run 13 = .ok (.ifnonnull 5, 3) := by decide +kernel
theorem dX9_run_16 : decode cX9_run 16 = .ok (.iconst (-1), 1) := by decide +kernel
theorem dX9_run_17 : decode cX9_run 17 = .ok (.ireturn, 1) := by decide +kernel
theorem dX9_run_18 : decode cX9_run 18 = .ok (.aload_n 0, 1) := by decide +kernel
theorem dX9_run_19 : decode cX9_run 19 = .ok (.getfield 10, 3) := by decide +kernel
theorem dX9_run_22 : decode cX9_run 22 = .ok (.iload_n 1, 1) := by decide +kernel
theorem dX9_run_23 : decode cX9_run 23 = .ok (.invokevirtual 96, 3) := by decide +kernel
theorem dX9_run_26 : decode cX9_run 26 = .ok (.ifCond .ne 6, 3) := by decide +kernel
theorem dX9_run_29 : decode cX9_run 29 = .ok (.bipush (-2), 2) := by decide +kernel
theorem dX9_run_31 : decode cX9_run 31 = .ok (.ireturn, 1) := by decide +kernel
theorem dX9_run_32 : decode cX9_run 32 = .ok (.aload_n 0, 1) := by decide +kernel
theorem dX9_run_33 : decode cX9_run 33 = .ok (.getfield 26, 3) := by decide +kernel
theorem dX9_run_36 : decode cX9_run 36 = .ok (.aload 6, 2) := by decide +kernel
theorem dX9_run_38 : decode cX9_run 38 = .ok (.invokevirtual 99, 3) := by decide +kernel
theorem dX9_run_41 : decode cX9_run 41 = .ok (.aload_n 0, 1) := by decide +kernel
theorem dX9_run_42 : decode cX9_run 42 = .ok (.getfield 26, 3) := by decide +kernel
theorem dX9_run_45 : decode cX9_run 45 = .ok (.iload_n 2, 1) := by decide +kernel
theorem dX9_run_46 : decode cX9_run 46 = .ok (.iload_n 3, 1) := by decide +kernel
theorem dX9_run_47 : decode cX9_run 47 = .ok (.iload 4, 2) := by decide +kernel
theorem dX9_run_49 : decode cX9_run 49 = .ok (.iload 5, 2) := by decide +kernel
theorem dX9_run_51 : decode cX9_run 51 = .ok (.invokevirtual 103, 3) := by decide +kernel
theorem dX9_run_54 : decode cX9_run 54 = .ok (.aload_n 0, 1) := by decide +kernel
theorem dX9_run_55 : decode cX9_run 55 = .ok (.getfield 26, 3) := by decide +kernel
theorem dX9_run_58 : decode cX9_run 58 = .ok (.aload_n 0, 1) := by decide +kernel
theorem dX9_run_59 : decode cX9_run 59 = .ok (.getfield 10, 3) := by decide +kernel
theorem dX9_run_62 : decode cX9_run 62 = .ok (.invokevirtual 107, 3) := by decide +kernel
theorem dX9_run_65 : decode cX9_run 65 = .ok (.ireturn, 1) := by decide +kernel
theorem dX9_answer_0 : decode cX9_answer 0 = .ok (.aload_n 0, 1) := by decide +kernel
theorem dX9_answer_1 : decode cX9_answer 1 = .ok (.getfield 26, 3) := by decide +kernel
theorem dX9_answer_4 : decode cX9_answer 4 = .ok (.getfield 111, 3) := by decide +kernel
theorem dX9_answer_7 : decode cX9_answer 7 = .ok (.ireturn, 1) := by decide +kernel
theorem dX9_told_0 : decode cX9_told 0 = .ok (.iload_n 1, 1) := by decide +kernel
theorem dX9_told_1 : decode cX9_told 1 = .ok (.tableswitch 78 0 4 #[35, 43, 51, 62, 70], 35) := by decide +kernel
theorem dX9_told_36 : decode cX9_told 36 = .ok (.aload_n 0, 1) := by decide +kernel
theorem dX9_told_37 : decode cX9_told 37 = .ok (.getfield 26, 3) := by decide +kernel
theorem dX9_told_40 : decode cX9_told 40 = .ok (.getfield 114, 3) := by decide +kernel
theorem dX9_told_43 : decode cX9_told 43 = .ok (.ireturn, 1) := by decide +kernel
theorem dX9_told_44 : decode cX9_told 44 = .ok (.aload_n 0, 1) := by decide +kernel
theorem dX9_told_45 : decode cX9_told 45 = .ok (.getfield 26, 3) := by decide +kernel
theorem dX9_told_48 : decode cX9_told 48 = .ok (.getfield 117, 3) := by decide +kernel
theorem dX9_told_51 : decode cX9_told 51 = .ok (.ireturn, 1) := by decide +kernel
theorem dX9_told_52 : decode cX9_told 52 = .ok (.aload_n 0, 1) := by decide +kernel
theorem dX9_told_53 : decode cX9_told 53 = .ok (.getfield 26, 3) := by decide +kernel
theorem dX9_told_56 : decode cX9_told 56 = .ok (.getfield 120, 3) := by decide +kernel
theorem dX9_told_59 : decode cX9_told 59 = .ok (.getfield 124, 3) := by decide +kernel
theorem dX9_told_62 : decode cX9_told 62 = .ok (.ireturn, 1) := by decide +kernel
theorem dX9_told_63 : decode cX9_told 63 = .ok (.aload_n 0, 1) := by decide +kernel
theorem dX9_told_64 : decode cX9_told 64 = .ok (.getfield 26, 3) := by decide +kernel
theorem dX9_told_67 : decode cX9_told 67 = .ok (.getfield 129, 3) := by decide +kernel
theorem dX9_told_70 : decode cX9_told 70 = .ok (.ireturn, 1) := by decide +kernel
theorem dX9_told_71 : decode cX9_told 71 = .ok (.aload_n 0, 1) := by decide +kernel
theorem dX9_told_72 : decode cX9_told 72 = .ok (.getfield 26, 3) := by decide +kernel
theorem dX9_told_75 : decode cX9_told 75 = .ok (.getfield 132, 3) := by decide +kernel
theorem dX9_told_78 : decode cX9_told 78 = .ok (.ireturn, 1) := by decide +kernel
theorem dX9_told_79 : decode cX9_told 79 = .ok (.iconst (-1), 1) := by decide +kernel
theorem dX9_told_80 : decode cX9_told 80 = .ok (.ireturn, 1) := by decide +kernel
theorem dX9_count_0 : decode cX9_count 0 = .ok (.iload_n 1, 1) := by decide +kernel
theorem dX9_count_1 : decode cX9_count 1 = .ok (.ifCond .ne 11, 3) := by decide +kernel
theorem dX9_count_4 : decode cX9_count 4 = .ok (.aload_n 0, 1) := by decide +kernel
theorem dX9_count_5 : decode cX9_count 5 = .ok (.getfield 10, 3) := by decide +kernel
theorem dX9_count_8 : decode cX9_count 8 = .ok (.getfield 135, 3) := by decide +kernel
theorem dX9_count_11 : decode cX9_count 11 = .ok (.ireturn, 1) := by decide +kernel
theorem dX9_count_12 : decode cX9_count 12 = .ok (.aload_n 0, 1) := by decide +kernel
theorem dX9_count_13 : decode cX9_count 13 = .ok (.getfield 10, 3) := by decide +kernel
theorem dX9_count_16 : decode cX9_count 16 = .ok (.iload_n 2, 1) := by decide +kernel
theorem dX9_count_17 : decode cX9_count 17 = .ok (.i2l, 1) := by decide +kernel
theorem dX9_count_18 : decode cX9_count 18 = .ok (.invokevirtual 34, 3) := by decide +kernel
theorem dX9_count_21 : decode cX9_count 21 = .ok (.astore_n 3, 1) := by decide +kernel
theorem dX9_count_22 : decode cX9_count 22 = .ok (.aload_n 3, 1) := by decide +kernel
theorem dX9_count_23 : decode cX9_count 23 = .ok (.ifnonnull 5, 3) := by decide +kernel
theorem dX9_count_26 : decode cX9_count 26 = .ok (.iconst (-1), 1) := by decide +kernel
theorem dX9_count_27 : decode cX9_count 27 = .ok (.ireturn, 1) := by decide +kernel
theorem dX9_count_28 : decode cX9_count 28 = .ok (.iload_n 1, 1) := by decide +kernel
theorem dX9_count_29 : decode cX9_count 29 = .ok (.tableswitch 50 1 3 #[27, 32, 37], 27) := by decide +kernel
theorem dX9_count_56 : decode cX9_count 56 = .ok (.aload_n 3, 1) := by decide +kernel
theorem dX9_count_57 : decode cX9_count 57 = .ok (.getfield 138, 3) := by decide +kernel
theorem dX9_count_60 : decode cX9_count 60 = .ok (.ireturn, 1) := by decide +kernel
theorem dX9_count_61 : decode cX9_count 61 = .ok (.aload_n 3, 1) := by decide +kernel
theorem dX9_count_62 : decode cX9_count 62 = .ok (.getfield 139, 3) := by decide +kernel
theorem dX9_count_65 : decode cX9_count 65 = .ok (.ireturn, 1) := by decide +kernel
theorem dX9_count_66 : decode cX9_count 66 = .ok (.aload_n 3, 1) := by decide +kernel
theorem dX9_count_67 : decode cX9_count 67 = .ok (.getfield 67, 3) := by decide +kernel
theorem dX9_count_70 : decode cX9_count 70 = .ok (.ifCond .eq 7, 3) := by decide +kernel
theorem dX9_count_73 : decode cX9_count 73 = .ok (.iconst 1, 1) := by decide +kernel
theorem dX9_count_74 : decode cX9_count 74 = .ok (.goto 4, 3) := by decide +kernel
theorem dX9_count_77 : decode cX9_count 77 = .ok (.iconst 0, 1) := by decide +kernel
theorem dX9_count_78 : decode cX9_count 78 = .ok (.ireturn, 1) := by decide +kernel
theorem dX9_count_79 : decode cX9_count 79 = .ok (.iconst (-1), 1) := by decide +kernel
theorem dX9_count_80 : decode cX9_count 80 = .ok (.ireturn, 1) := by decide +kernel
