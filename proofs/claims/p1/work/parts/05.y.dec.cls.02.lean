theorem dX9_judge_9 : decode cX9_judge 9 = .ok (.astore_n 2, 1) := by decide +kernel
theorem dX9_judge_10 : decode cX9_judge 10 = .ok (.aload_n 2, 1) := by decide +kernel
theorem dX9_judge_11 : decode cX9_judge 11 = .ok (.ifnonnull 5, 3) := by decide +kernel
theorem dX9_judge_14 : decode cX9_judge 14 = .ok (.iconst (-1), 1) := by decide +kernel
theorem dX9_judge_15 : decode cX9_judge 15 = .ok (.ireturn, 1) := by decide +kernel
theorem dX9_judge_16 : decode cX9_judge 16 = .ok (.aload_n 0, 1) := by decide +kernel
theorem dX9_judge_17 : decode cX9_judge 17 = .ok (.getfield 19, 3) := by decide +kernel
theorem dX9_judge_20 : decode cX9_judge 20 = .ok (.aload_n 0, 1) := by decide +kernel
theorem dX9_judge_21 : decode cX9_judge 21 = .ok (.getfield 10, 3) := by decide +kernel
theorem dX9_judge_24 : decode cX9_judge 24 = .ok (.aload_n 2, 1) := by decide +kernel
theorem dX9_judge_25 : decode cX9_judge 25 = .ok (.invokevirtual 75, 3) := by decide +kernel
theorem dX9_judge_28 : decode cX9_judge 28 = .ok (.istore_n 3, 1) := by decide +kernel
theorem dX9_judge_29 : decode cX9_judge 29 = .ok (.aload_n 2, 1) := by decide +kernel
theorem dX9_judge_30 : decode cX9_judge 30 = .ok (.iload_n 3, 1) := by decide +kernel
theorem dX9_judge_31 : decode cX9_judge 31 = .ok (.ifCond .ne 7, 3) := by decide +kernel
theorem dX9_judge_34 : decode cX9_judge 34 = .ok (.iconst 1, 1) := by decide +kernel
theorem dX9_judge_35 : decode cX9_judge 35 = .ok (.goto 4, 3) := by decide +kernel
theorem dX9_judge_38 : decode cX9_judge 38 = .ok (.iconst 0, 1) := by decide +kernel
theorem dX9_judge_39 : decode cX9_judge 39 = .ok (.putfield 67, 3) := by decide +kernel
theorem dX9_judge_42 : decode cX9_judge 42 = .ok (.iload_n 3, 1) := by decide +kernel
theorem dX9_judge_43 : decode cX9_judge 43 = .ok (.ireturn, 1) := by decide +kernel
theorem dX9_join_0 : decode cX9_join 0 = .ok (.aload_n 0, 1) := by decide +kernel
theorem dX9_join_1 : decode cX9_join 1 = .ok (.getfield 10, 3) := by decide +kernel
theorem dX9_join_4 : decode cX9_join 4 = .ok (.iload_n 1, 1) := by decide +kernel
theorem dX9_join_5 : decode cX9_join 5 = .ok (.i2l, 1) := by decide +kernel
theorem dX9_join_6 : decode cX9_join 6 = .ok (.invokevirtual 34, 3) := by decide +kernel
theorem dX9_join_9 : decode cX9_join 9 = .ok (.astore_n 2, 1) := by decide +kernel
theorem dX9_join_10 : decode cX9_join 10 = .ok (.aload_n 2, 1) := by decide +kernel
theorem dX9_join_11 : decode cX9_join 11 = .ok (.ifnonnull 5, 3) := by decide +kernel
theorem dX9_join_14 : decode cX9_join 14 = .ok (.iconst (-1), 1) := by decide +kernel
theorem dX9_join_15 : decode cX9_join 15 = .ok (.ireturn, 1) := by decide +kernel
theorem dX9_join_16 : decode cX9_join 16 = .ok (.aload_n 0, 1) := by decide +kernel
theorem dX9_join_17 : decode cX9_join 17 = .ok (.getfield 19, 3) := by decide +kernel
theorem dX9_join_20 : decode cX9_join 20 = .ok (.aload_n 0, 1) := by decide +kernel
theorem dX9_join_21 : decode cX9_join 21 = .ok (.getfield 10, 3) := by decide +kernel
theorem dX9_join_24 : decode cX9_join 24 = .ok (.aload_n 2, 1) := by decide +kernel
theorem dX9_join_25 : decode cX9_join 25 = .ok (.invokevirtual 79, 3) := by decide +kernel
theorem dX9_join_28 : decode cX9_join 28 = .ok (.istore_n 3, 1) := by decide +kernel
theorem dX9_join_29 : decode cX9_join 29 = .ok (.aload_n 2, 1) := by decide +kernel
theorem dX9_join_30 : decode cX9_join 30 = .ok (.iload_n 3, 1) := by decide +kernel
theorem dX9_join_31 : decode cX9_join 31 = .ok (.ifCond .ne 7, 3) := by decide +kernel
theorem dX9_join_34 : decode cX9_join 34 = .ok (.iconst 1, 1) := by decide +kernel
theorem dX9_join_35 : decode cX9_join 35 = .ok (.goto 4, 3) := by decide +kernel
theorem dX9_join_38 : decode cX9_join 38 = .ok (.iconst 0, 1) := by decide +kernel
theorem dX9_join_39 : decode cX9_join 39 = .ok (.putfield 67, 3) := by decide +kernel
theorem dX9_join_42 : decode cX9_join 42 = .ok (.iload_n 3, 1) := by decide +kernel
theorem dX9_join_43 : decode cX9_join 43 = .ok (.ireturn, 1) := by decide +kernel
theorem dX9_kind_0 : decode cX9_kind 0 = .ok (.aload_n 0, 1) := by decide +kernel
theorem dX9_kind_1 : decode cX9_kind 1 = .ok (.getfield 19, 3) := by decide +kernel
theorem dX9_kind_4 : decode cX9_kind 4 = .ok (.iload_n 1, 1) := by decide +kernel
theorem dX9_kind_5 : decode cX9_kind 5 = .ok (.iload_n 2, 1) := by decide +kernel
theorem dX9_kind_6 : decode cX9_kind 6 = .ok (.invokevirtual 82, 3) := by decide +kernel
theorem dX9_kind_9 : decode cX9_kind 9 = .ok (.ireturn, 1) := by decide +kernel
theorem dX9_rounds_0 : decode cX9_rounds 0 = .ok (.aload_n 0, 1) := by decide +kernel
theorem dX9_rounds_1 : decode cX9_rounds 1 = .ok (.getfield 19, 3) := by decide +kernel
theorem dX9_rounds_4 : decode cX9_rounds 4 = .ok (.getfield 85, 3) := by decide +kernel
theorem dX9_rounds_7 : decode cX9_rounds 7 = .ok (.ireturn, 1) := by decide +kernel
theorem dX9_kinds_0 : decode cX9_kinds 0 = .ok (.iload_n 1, 1) := by decide +kernel
theorem dX9_kinds_1 : decode cX9_kinds 1 = .ok (.invokestatic 62, 3) := by decide +kernel
theorem dX9_kinds_4 : decode cX9_kinds 4 = .ok (.ifCond .eq 10, 3) := by decide +kernel
theorem dX9_kinds_7 : decode cX9_kinds 7 = .ok (.iload_n 2, 1) := by decide +kernel
theorem dX9_kinds_8 : decode cX9_kinds 8 = .ok (.invokestatic 62, 3) := by decide +kernel
theorem dX9_kinds_11 : decode cX9_kinds 11 = .ok (.ifCond .ne 5, 3) := by decide +kernel
theorem dX9_kinds_14 : decode cX9_kinds 14 = .ok (.iconst (-1), 1) := by decide +kernel
theorem dX9_kinds_15 : decode cX9_kinds 15 = .ok (.ireturn, 1) := by decide +kernel
theorem dX9_kinds_16 : decode cX9_kinds 16 = .ok (.iload_n 3, 1) := by decide +kernel
theorem dX9_kinds_17 : decode cX9_kinds 17 = .ok (.ifCond .eq 17, 3) := by decide +kernel
theorem dX9_kinds_20 : decode cX9_kinds 20 = .ok (.iload_n 1, 1) := by decide +kernel
theorem dX9_kinds_21 : decode cX9_kinds 21 = .ok (.iload_n 2, 1) := by decide +kernel
theorem dX9_kinds_22 : decode cX9_kinds 22 = .ok (.invokestatic 89, 3) := by decide +kernel
theorem dX9_kinds_25 : decode cX9_kinds 25 = .ok (.ifCond .eq 7, 3) := by decide +kernel
theorem dX9_kinds_28 : decode cX9_kinds 28 = .ok (.iconst 1, 1) := by decide +kernel
theorem dX9_kinds_29 : decode cX9_kinds 29 = .ok (.goto 4, 3) := by decide +kernel
theorem dX9_kinds_32 : decode cX9_kinds 32 = .ok (.iconst 0, 1) := by decide +kernel
theorem dX9_kinds_33 : decode cX9_kinds 33 = .ok (.ireturn, 1) := by decide +kernel
theorem dX9_kinds_34 : decode cX9_kinds 34 = .ok (.iload_n 1, 1) := by decide +kernel
theorem dX9_kinds_35 : decode cX9_kinds 35 = .ok (.iload_n 2, 1) := by decide +kernel
theorem dX9_kinds_36 : decode cX9_kinds 36 = .ok (.invokestatic 93, 3) := by decide +kernel
theorem dX9_kinds_39 : decode cX9_kinds 39 = .ok (.ireturn, 1) := by decide +kernel
theorem dX9_run_0 : decode cX9_run 0 = .ok (.aload_n 0, 1) := by decide +kernel
theorem dX9_run_1 : decode cX9_run 1 = .ok (.getfield 10, 3) := by decide +kernel
theorem dX9_run_4 : decode cX9_run 4 = .ok (.iload_n 1, 1) := by decide +kernel
theorem dX9_run_5 : decode cX9_run 5 = .ok (.i2l, 1) := by decide +kernel
theorem dX9_run_6 : decode cX9_run 6 = .ok (.invokevirtual 34, 3) := by decide +kernel
theorem dX9_run_9 : decode cX9_run 9 = .ok (.astore 6, 2) := by decide +kernel
theorem dX9_run_11 : decode cX9_run 11 = .ok (.aload 6, 2) := by decide +kernel
theorem dX9_run_13 : decode cX9_run 13 = .ok (.ifnonnull 5, 3) := by decide +kernel
theorem dX9_run_16 : decode cX9_run 16 = .ok (.iconst (-1), 1) := by decide +kernel
theorem dX9_run_17 : decode cX9_run 17 = .ok (.ireturn, 1) := by decide +kernel
theorem dX9_run_18 : decode cX9_run 18 = .ok (.aload_n 0, 1) := by decide +kernel
theorem dX9_run_19 : decode cX9_run 19 = .ok (.getfield 10, 3) := by decide +kernel
theorem dX9_run_22 : decode cX9_run 22 = .ok (.iload_n 1, 1) := by decide +kernel
theorem dX9_run_23 : decode cX9_run 23 = .ok (.invokevirtual 96, 3) := by decide +kernel
theorem dX9_run_26 : decode cX9_run 26 = .ok (.ifCond .ne 6, 3) := by decide +kernel
theorem dX9_run_29 : decode cX9_run 29 = .ok (.bipush (-2), 2) := by decide +kernel
theorem dX9_run_31 : decode cX9_run 31 = .ok (.ireturn, 1) := by decide +kernel
theorem dX9_run_32 : decode cX9_run 32 = .ok (.aload_n 0, 1) := by decide +kernel
theorem dX9_run_33 : decode cX9_run 33 = .ok (.getfield 26, 3) := by decide +kernel
theorem dX9_run_36 : decode cX9_run 36 = .ok (.aload 6, 2) := by decide +kernel
theorem dX9_run_38 : decode cX9_run 38 = .ok (.invokevirtual 99, 3) := by decide +kernel
theorem dX9_run_41 : decode cX9_run 41 = .ok (.aload_n 0, 1) := by decide +kernel
theorem dX9_run_42 : decode cX9_run 42 = .ok (.getfield 26, 3) := by decide +kernel
theorem dX9_run_45 : decode cX9_run 45 = .ok (.iload_n 2, 1) := by decide +kernel
theorem dX9_run_46 : decode cX9_run 46 = .ok (.iload_n 3, 1) := by decide +kernel
theorem dX9_run_47 : decode cX9_run 47 = .ok (.iload 4, 2) := by decide +kernel
theorem dX9_run_49 : decode cX9_run 49 = .ok (.iload 5, 2) := by decide +kernel
theorem dX9_run_51 : decode cX9_run 51 = .ok (.invokevirtual 103, 3) := by decide +kernel
theorem dX9_run_54 : decode cX9_run 54 = .ok (.aload_n 0, 1) := by decide +kernel
theorem dX9_run_55 : decode cX9_run 55 = .ok (.getfield 26, 3) := by decide +kernel
theorem dX9_run_58 : decode cX9_run 58 = .ok (.aload_n 0, 1) := by decide +kernel
theorem dX9_run_59 : decode cX9_run 59 = .ok (.getfield 10, 3) := by decide +kernel
theorem dX9_run_62 : decode cX9_run 62 = .ok (.invokevirtual 107, 3) := by decide +kernel
theorem dX9_run_65 : decode cX9_run 65 = .ok (.ireturn, 1) := by decide +kernel
theorem dX9_answer_0 : decode cX9_answer 0 = .ok (.aload_n 0, 1) := by decide +kernel
theorem dX9_answer_1 : decode cX9_answer 1 = .ok (.getfield 26, 3) := by decide +kernel
theorem dX9_answer_4 : decode cX9_answer 4 = .ok (.getfield 111, 3) := by decide +kernel
theorem dX9_answer_7 : decode cX9_answer 7 = .ok (.ireturn, 1) := by decide +kernel
theorem dX9_told_0 : decode cX9_told 0 = .ok (.iload_n 1, 1) := by decide +kernel
theorem dX9_told_1 : decode cX9_told 1 = .ok (.tableswitch 78 0 4 #[35, 43, 51, 62, 70], 35) := by decide +kernel
theorem dX9_told_36 : decode cX9_told 36 = .ok (.aload_n 0, 1) := by decide +kernel
theorem dX9_told_37 : decode cX9_told 37 = .ok (.getfield 26, 3) := by decide +kernel
theorem dX9_told_40 : decode cX9_told 40 = .ok (.getfield 114, 3) := by decide +kernel
theorem dX9_told_43 : decode cX9_told 43 = .ok (.ireturn, 1) := by decide +kernel
theorem dX9_told_44 : decode cX9_told 44 = .ok (.aload_n 0, 1) := by decide +kernel
theorem dX9_told_45 : decode cX9_told 45 = .ok (.getfield 26, 3) := by decide +kernel
theorem dX9_told_48 : decode cX9_told 48 = .ok (.getfield 117, 3) := by decide +kernel
theorem dX9_told_51 : decode cX9_told 51 = .ok (.ireturn, 1) := by decide +kernel
theorem dX9_told_52 : decode cX9_told 52 = .ok (.aload_n 0, 1) := by decide +kernel
theorem dX9_told_53 : decode cX9_told 53 = .ok (.getfield 26, 3) := by decide +kernel
theorem dX9_told_56 : decode cX9_told 56 = .ok (.getfield 120, 3) := by decide +kernel
theorem dX9_told_59 : decode cX9_told 59 = .ok (.getfield 124, 3) := by decide +kernel
theorem dX9_told_62 : decode cX9_told 62 = .ok (.ireturn, 1) := by decide +kernel
theorem dX9_told_63 : decode cX9_told 63 = .ok (.aload_n 0, 1) := by decide +kernel
theorem dX9_told_64 : decode cX9_told 64 = .ok (.getfield 26, 3) := by decide +kernel
theorem dX9_told_67 : decode cX9_told 67 = .ok (.getfield 129, 3) := by decide +kernel
theorem dX9_told_70 : decode cX9_told 70 = .ok (.ireturn, 1) := by decide +kernel
theorem dX9_told_71 : decode cX9_told 71 = .ok (.aload_n 0, 1) := by decide +kernel
theorem dX9_told_72 : decode cX9_told 72 = .ok (.getfield 26, 3) := by decide +kernel
theorem dX9_told_75 : decode cX9_told 75 = .ok (.getfield 132, 3) := by decide +kernel
theorem dX9_told_78 : decode cX9_told 78 = .ok (.ireturn, 1) := by decide +kernel
theorem dX9_told_79 : decode cX9_told 79 = .ok (.iconst (-1), 1) := by decide +kernel
theorem dX9_told_80 : decode cX9_told 80 = .ok (.ireturn, 1) := by decide +kernel
theorem dX9_count_0 : decode cX9_count 0 = .ok (.iload_n 1, 1) := by decide +kernel
theorem dX9_count_1 : decode cX9_count 1 = .ok (.ifCond .ne 11, 3) := by decide +kernel
theorem dX9_count_4 : decode cX9_count 4 = .ok (.aload_n 0, 1) := by decide +kernel
theorem dX9_count_5 : decode cX9_count 5 = .ok (.getfield 10, 3) := by decide +kernel
theorem dX9_count_8 : decode cX9_count 8 = .ok (.getfield 135, 3) := by decide +kernel
theorem dX9_count_11 : decode cX9_count 11 = .ok (.ireturn, 1) := by decide +kernel
theorem dX9_count_12 : decode cX9_count 12 = .ok (.aload_n 0, 1) := by decide +kernel
theorem dX9_count_13 : decode cX9_count 13 = .ok (.getfield 10, 3) := by decide +kernel
theorem dX9_count_16 : decode cX9_count 16 = .ok (.iload_n 2, 1) := by decide +kernel
theorem dX9_count_17 : decode cX9_count 17 = .ok (.i2l, 1) := by decide +kernel
theorem dX9_count_18 : decode cX9_count 18 = .ok (.invokevirtual 34, 3) := by decide +kernel
theorem dX9_count_21 : decode cX9_count 21 = .ok (.astore_n 3, 1) := by decide +kernel
theorem dX9_count_22 : decode cX9_count 22 = .ok (.aload_n 3, 1) := by decide +kernel
theorem dX9_count_23 : decode cX9_count 23 = .ok (.ifnonnull 5, 3) := by decide +kernel
theorem dX9_count_26 : decode cX9_count 26 = .ok (.iconst (-1), 1) := by decide +kernel
theorem dX9_count_27 : decode cX9_count 27 = .ok (.ireturn, 1) := by decide +kernel
theorem dX9_count_28 : decode cX9_count 28 = .ok (.iload_n 1, 1) := by decide +kernel
theorem dX9_count_29 : decode cX9_count 29 = .ok (.tableswitch 50 1 3 #[27, 32, 37], 27) := by decide +kernel
theorem dX9_count_56 : decode cX9_count 56 = .ok (.aload_n 3, 1) := by decide +kernel
theorem dX9_count_57 : decode cX9_count 57 = .ok (.getfield 138, 3) := by decide +kernel
theorem dX9_count_60 : decode cX9_count 60 = .ok (.ireturn, 1) := by decide +kernel
theorem dX9_count_61 : decode cX9_count 61 = .ok (.aload_n 3, 1) := by decide +kernel
theorem dX9_count_62 : decode cX9_count 62 = .ok (.getfield 139, 3) := by decide +kernel
theorem dX9_count_65 : decode cX9_count 65 = .ok (.ireturn, 1) := by decide +kernel
theorem dX9_count_66 : decode cX9_count 66 = .ok (.aload_n 3, 1) := by decide +kernel
theorem dX9_count_67 : decode cX9_count 67 = .ok (.getfield 67, 3) := by decide +kernel
theorem dX9_count_70 : decode cX9_count 70 = .ok (.ifCond .eq 7, 3) := by decide +kernel
theorem dX9_count_73 : decode cX9_count 73 = .ok (.iconst 1, 1) := by decide +kernel
theorem dX9_count_74 : decode cX9_count 74 = .ok (.goto 4, 3) := by decide +kernel
theorem dX9_count_77 : decode cX9_count 77 = .ok (.iconst 0, 1) := by decide +kernel
theorem dX9_count_78 : decode cX9_count 78 = .ok (.ireturn, 1) := by decide +kernel
theorem dX9_count_79 : decode cX9_count 79 = .ok (.iconst (-1), 1) := by decide +kernel
theorem dX9_count_80 : decode cX9_count 80 = .ok (.ireturn, 1) := by decide +kernel
