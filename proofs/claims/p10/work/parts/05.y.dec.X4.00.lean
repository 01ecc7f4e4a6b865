theorem dX4_init_0 : decode cX4_init 0 = .ok (.aload_n 0, 1) := by decide +kernel
theorem dX4_init_1 : decode cX4_init 1 = .ok (.invokespecial 5, 3) := by decide +kernel
theorem dX4_init_4 : decode cX4_init 4 = .ok (.aload_n 0, 1) := by decide +kernel
theorem dX4_init_5 : decode cX4_init 5 = .ok (.new 11, 3) := by decide +kernel
theorem dX4_init_8 : decode cX4_init 8 = .ok (.dup, 1) := by decide +kernel
theorem dX4_init_9 : decode cX4_init 9 = .ok (.invokespecial 13, 3) := by decide +kernel
theorem dX4_init_12 : decode cX4_init 12 = .ok (.putfield 14, 3) := by decide +kernel
theorem dX4_init_15 : decode cX4_init 15 = .ok (.aload_n 0, 1) := by decide +kernel
theorem dX4_init_16 : decode cX4_init 16 = .ok (.bipush 8, 2) := by decide +kernel
theorem dX4_init_18 : decode cX4_init 18 = .ok (.anewarray 20, 3) := by decide +kernel
theorem dX4_init_21 : decode cX4_init 21 = .ok (.putfield 22, 3) := by decide +kernel
theorem dX4_init_24 : decode cX4_init 24 = .ok (.aload_n 0, 1) := by decide +kernel
theorem dX4_init_25 : decode cX4_init 25 = .ok (.bipush 8, 2) := by decide +kernel
theorem dX4_init_27 : decode cX4_init 27 = .ok (.newarray .int, 2) := by decide +kernel
theorem dX4_init_29 : decode cX4_init 29 = .ok (.putfield 26, 3) := by decide +kernel
theorem dX4_init_32 : decode cX4_init 32 = .ok (.aload_n 0, 1) := by decide +kernel
theorem dX4_init_33 : decode cX4_init 33 = .ok (.bipush 8, 2) := by decide +kernel
theorem dX4_init_35 : decode cX4_init 35 = .ok (.newarray .int, 2) := by decide +kernel
theorem dX4_init_37 : decode cX4_init 37 = .ok (.putfield 30, 3) := by decide +kernel
theorem dX4_init_40 : decode cX4_init 40 = .ok (.aload_n 0, 1) := by decide +kernel
theorem dX4_init_41 : decode cX4_init 41 = .ok (.bipush 64, 2) := by decide +kernel
theorem dX4_init_43 : decode cX4_init 43 = .ok (.newarray .long, 2) := by decide +kernel
theorem dX4_init_45 : decode cX4_init 45 = .ok (.putfield 35, 3) := by decide +kernel
theorem dX4_init_48 : decode cX4_init 48 = .ok (.aload_n 0, 1) := by decide +kernel
theorem dX4_init_49 : decode cX4_init 49 = .ok (.bipush 64, 2) := by decide +kernel
theorem dX4_init_51 : decode cX4_init 51 = .ok (.newarray .long, 2) := by decide +kernel
theorem dX4_init_53 : decode cX4_init 53 = .ok (.putfield 39, 3) := by decide +kernel
theorem dX4_init_56 : decode cX4_init 56 = .ok (.aload_n 0, 1) := by decide +kernel
theorem dX4_init_57 : decode cX4_init 57 = .ok (.ldc 42, 2) := by decide +kernel
theorem dX4_init_59 : decode cX4_init 59 = .ok (.putfield 43, 3) := by decide +kernel
theorem dX4_init_62 : decode cX4_init 62 = .ok (.aload_n 0, 1) := by decide +kernel
theorem dX4_init_63 : decode cX4_init 63 = .ok (.ldc 42, 2) := by decide +kernel
theorem dX4_init_65 : decode cX4_init 65 = .ok (.putfield 47, 3) := by decide +kernel
theorem dX4_init_68 : decode cX4_init 68 = .ok (.return_, 1) := by decide +kernel
theorem dX4_prepare_0 : decode cX4_prepare 0 = .ok (.aload_n 0, 1) := by decide +kernel
theorem dX4_prepare_1 : decode cX4_prepare 1 = .ok (.iconst 0, 1) := by decide +kernel
theorem dX4_prepare_2 : decode cX4_prepare 2 = .ok (.putfield 50, 3) := by decide +kernel
theorem dX4_prepare_5 : decode cX4_prepare 5 = .ok (.aload_n 0, 1) := by decide +kernel
theorem dX4_prepare_6 : decode cX4_prepare 6 = .ok (.aload_n 1, 1) := by decide +kernel
theorem dX4_prepare_7 : decode cX4_prepare 7 = .ok (.invokevirtual 53, 3) := by decide +kernel
theorem dX4_prepare_10 : decode cX4_prepare 10 = .ok (.aload_n 0, 1) := by decide +kernel
theorem dX4_prepare_11 : decode cX4_prepare 11 = .ok (.getfield 14, 3) := by decide +kernel
theorem dX4_prepare_14 : decode cX4_prepare 14 = .ok (.iconst 0, 1) := by decide +kernel
theorem dX4_prepare_15 : decode cX4_prepare 15 = .ok (.putfield 57, 3) := by decide +kernel
theorem dX4_prepare_18 : decode cX4_prepare 18 = .ok (.aload_n 0, 1) := by decide +kernel
theorem dX4_prepare_19 : decode cX4_prepare 19 = .ok (.iconst (-1), 1) := by decide +kernel
theorem dX4_prepare_20 : decode cX4_prepare 20 = .ok (.putfield 60, 3) := by decide +kernel
theorem dX4_prepare_23 : decode cX4_prepare 23 = .ok (.aload_n 0, 1) := by decide +kernel
theorem dX4_prepare_24 : decode cX4_prepare 24 = .ok (.iconst 0, 1) := by decide +kernel
theorem dX4_prepare_25 : decode cX4_prepare 25 = .ok (.putfield 63, 3) := by decide +kernel
theorem dX4_prepare_28 : decode cX4_prepare 28 = .ok (.aload_n 0, 1) := by decide +kernel
theorem dX4_prepare_29 : decode cX4_prepare 29 = .ok (.iconst 0, 1) := by decide +kernel
theorem dX4_prepare_30 : decode cX4_prepare 30 = .ok (.putfield 66, 3) := by decide +kernel
theorem dX4_prepare_33 : decode cX4_prepare 33 = .ok (.aload_n 0, 1) := by decide +kernel
theorem dX4_prepare_34 : decode cX4_prepare 34 = .ok (.iconst 0, 1) := by decide +kernel
theorem dX4_prepare_35 : decode cX4_prepare 35 = .ok (.putfield 69, 3) := by decide +kernel
theorem dX4_prepare_38 : decode cX4_prepare 38 = .ok (.aload_n 0, 1) := by decide +kernel
theorem dX4_prepare_39 : decode cX4_prepare 39 = .ok (.ldc 42, 2) := by decide +kernel
theorem dX4_prepare_41 : decode cX4_prepare 41 = .ok (.putfield 43, 3) := by decide +kernel
theorem dX4_prepare_44 : decode cX4_prepare 44 = .ok (.aload_n 0, 1) := by decide +kernel
theorem dX4_prepare_45 : decode cX4_prepare 45 = .ok (.ldc 42, 2) := by decide +kernel
theorem dX4_prepare_47 : decode cX4_prepare 47 = .ok (.putfield 47, 3) := by decide +kernel
theorem dX4_prepare_50 : decode cX4_prepare 50 = .ok (.return_, 1) := by decide +kernel
theorem dX4_giveParams_0 : decode cX4_giveParams 0 = .ok (.aload_n 0, 1) := by decide +kernel
theorem dX4_giveParams_1 : decode cX4_giveParams 1 = .ok (.getfield 35, 3) := by decide +kernel
theorem dX4_giveParams_4 : decode cX4_giveParams 4 = .ok (.iconst 0, 1) := by decide +kernel
theorem dX4_giveParams_5 : decode cX4_giveParams 5 = .ok (.iload_n 1, 1) := by decide +kernel
theorem dX4_giveParams_6 : decode cX4_giveParams 6 = .ok (.i2l, 1) := by decide +kernel
theorem dX4_giveParams_7 : decode cX4_giveParams 7 = .ok (.lastore, 1) := by decide +kernel
theorem dX4_giveParams_8 : decode cX4_giveParams 8 = .ok (.aload_n 0, 1) := by decide +kernel
theorem dX4_giveParams_9 : decode cX4_giveParams 9 = .ok (.getfield 35, 3) := by decide +kernel
theorem dX4_giveParams_12 : decode cX4_giveParams 12 = .ok (.iconst 1, 1) := by decide +kernel
theorem dX4_giveParams_13 : decode cX4_giveParams 13 = .ok (.iload_n 2, 1) := by decide +kernel
theorem dX4_giveParams_14 : decode cX4_giveParams 14 = .ok (.i2l, 1) := by decide +kernel
theorem dX4_giveParams_15 : decode cX4_giveParams 15 = .ok (.lastore, 1) := by decide +kernel
theorem dX4_giveParams_16 : decode cX4_giveParams 16 = .ok (.aload_n 0, 1) := by decide +kernel
theorem dX4_giveParams_17 : decode cX4_giveParams 17 = .ok (.getfield 35, 3) := by decide +kernel
theorem dX4_giveParams_20 : decode cX4_giveParams 20 = .ok (.iconst 2, 1) := by decide +kernel
theorem dX4_giveParams_21 : decode cX4_giveParams 21 = .ok (.iload_n 3, 1) := by decide +kernel
theorem dX4_giveParams_22 : decode cX4_giveParams 22 = .ok (.i2l, 1) := by decide +kernel
theorem dX4_giveParams_23 : decode cX4_giveParams 23 = .ok (.lastore, 1) := by decide +kernel
theorem dX4_giveParams_24 : decode cX4_giveParams 24 = .ok (.aload_n 0, 1) := by decide +kernel
theorem dX4_giveParams_25 : decode cX4_giveParams 25 = .ok (.getfield 35, 3) := by decide +kernel
theorem dX4_giveParams_28 : decode cX4_giveParams 28 = .ok (.iconst 3, 1) := by decide +kernel
theorem dX4_giveParams_29 : decode cX4_giveParams 29 = .ok (.iload 4, 2) := by decide +kernel
theorem dX4_giveParams_31 : decode cX4_giveParams 31 = .ok (.i2l, 1) := by decide +kernel
theorem dX4_giveParams_32 : decode cX4_giveParams 32 = .ok (.lastore, 1) := by decide +kernel
theorem dX4_giveParams_33 : decode cX4_giveParams 33 = .ok (.return_, 1) := by decide +kernel
theorem dX4_goOn_0 : decode cX4_goOn 0 = .ok (.aload_n 0, 1) := by decide +kernel
theorem dX4_goOn_1 : decode cX4_goOn 1 = .ok (.getfield 60, 3) := by decide +kernel
theorem dX4_goOn_4 : decode cX4_goOn 4 = .ok (.iconst (-1), 1) := by decide +kernel
theorem dX4_goOn_5 : decode cX4_goOn 5 = .ok (.if_icmp .ne 31, 3) := by decide +kernel
theorem dX4_goOn_8 : decode cX4_goOn 8 = .ok (.aload_n 0, 1) := by decide +kernel
theorem dX4_goOn_9 : decode cX4_goOn 9 = .ok (.getfield 66, 3) := by decide +kernel
theorem dX4_goOn_12 : decode cX4_goOn 12 = .ok (.sipush 2000, 3) := by decide +kernel
theorem dX4_goOn_15 : decode cX4_goOn 15 = .ok (.if_icmp .ge 21, 3) := by decide +kernel
theorem dX4_goOn_18 : decode cX4_goOn 18 = .ok (.aload_n 0, 1) := by decide +kernel
theorem dX4_goOn_19 : decode cX4_goOn 19 = .ok (.dup, 1) := by decide +kernel
theorem dX4_goOn_20 : decode cX4_goOn 20 = .ok (.getfield 66, 3) := by decide +kernel
theorem dX4_goOn_23 : decode cX4_goOn 23 = .ok (.iconst 1, 1) := by decide +kernel
theorem dX4_goOn_24 : decode cX4_goOn 24 = .ok (.iadd, 1) := by decide +kernel
theorem dX4_goOn_25 : decode cX4_goOn 25 = .ok (.putfield 66, 3) := by decide +kernel
theorem dX4_goOn_28 : decode cX4_goOn 28 = .ok (.aload_n 0, 1) := by decide +kernel
theorem dX4_goOn_29 : decode cX4_goOn 29 = .ok (.aload_n 1, 1) := by decide +kernel
theorem dX4_goOn_30 : decode cX4_goOn 30 = .ok (.invokevirtual 72, 3) := by decide +kernel
theorem dX4_goOn_33 : decode cX4_goOn 33 = .ok (.goto (-33), 3) := by decide +kernel
theorem dX4_goOn_36 : decode cX4_goOn 36 = .ok (.aload_n 0, 1) := by decide +kernel
theorem dX4_goOn_37 : decode cX4_goOn 37 = .ok (.getfield 60, 3) := by decide +kernel
theorem dX4_goOn_40 : decode cX4_goOn 40 = .ok (.iconst (-1), 1) := by decide +kernel
theorem dX4_goOn_41 : decode cX4_goOn 41 = .ok (.if_icmp .ne 9, 3) := by decide +kernel
theorem dX4_goOn_44 : decode cX4_goOn 44 = .ok (.aload_n 0, 1) := by decide +kernel
theorem dX4_goOn_45 : decode cX4_goOn 45 = .ok (.bipush 8, 2) := by decide +kernel
theorem dX4_goOn_47 : decode cX4_goOn 47 = .ok (.putfield 60, 3) := by decide +kernel
theorem dX4_goOn_50 : decode cX4_goOn 50 = .ok (.aload_n 0, 1) := by decide +kernel
theorem dX4_goOn_51 : decode cX4_goOn 51 = .ok (.getfield 60, 3) := by decide +kernel
theorem dX4_goOn_54 : decode cX4_goOn 54 = .ok (.ireturn, 1) := by decide +kernel
theorem dX4_enter_0 : decode cX4_enter 0 = .ok (.aload_n 0, 1) := by decide +kernel
theorem dX4_enter_1 : decode cX4_enter 1 = .ok (.getfield 22, 3) := by decide +kernel
theorem dX4_enter_4 : decode cX4_enter 4 = .ok (.aload_n 0, 1) := by decide +kernel
theorem dX4_enter_5 : decode cX4_enter 5 = .ok (.getfield 50, 3) := by decide +kernel
theorem dX4_enter_8 : decode cX4_enter 8 = .ok (.aload_n 1, 1) := by decide +kernel
theorem dX4_enter_9 : decode cX4_enter 9 = .ok (.aastore, 1) := by decide +kernel
theorem dX4_enter_10 : decode cX4_enter 10 = .ok (.aload_n 0, 1) := by decide +kernel
theorem dX4_enter_11 : decode cX4_enter 11 = .ok (.getfield 26, 3) := by decide +kernel
theorem dX4_enter_14 : decode cX4_enter 14 = .ok (.aload_n 0, 1) := by decide +kernel
theorem dX4_enter_15 : decode cX4_enter 15 = .ok (.getfield 50, 3) := by decide +kernel
theorem dX4_enter_18 : decode cX4_enter 18 = .ok (.iconst 0, 1) := by decide +kernel
theorem dX4_enter_19 : decode cX4_enter 19 = .ok (.iastore, 1) := by decide +kernel
theorem dX4_enter_20 : decode cX4_enter 20 = .ok (.aload_n 0, 1) := by decide +kernel
theorem dX4_enter_21 : decode cX4_enter 21 = .ok (.getfield 30, 3) := by decide +kernel
theorem dX4_enter_24 : decode cX4_enter 24 = .ok (.aload_n 0, 1) := by decide +kernel
theorem dX4_enter_25 : decode cX4_enter 25 = .ok (.getfield 50, 3) := by decide +kernel
theorem dX4_enter_28 : decode cX4_enter 28 = .ok (.iconst 0, 1) := by decide +kernel
theorem dX4_enter_29 : decode cX4_enter 29 = .ok (.iastore, 1) := by decide +kernel
theorem dX4_enter_30 : decode cX4_enter 30 = .ok (.return_, 1) := by decide +kernel
theorem dX4_doNext_0 : decode cX4_doNext 0 = .ok (.aload_n 0, 1) := by decide +kernel
theorem dX4_doNext_1 : decode cX4_doNext 1 = .ok (.getfield 22, 3) := by decide +kernel
theorem dX4_doNext_4 : decode cX4_doNext 4 = .ok (.aload_n 0, 1) := by decide +kernel
theorem dX4_doNext_5 : decode cX4_doNext 5 = .ok (.getfield 50, 3) := by decide +kernel
theorem dX4_doNext_8 : decode cX4_doNext 8 = .ok (.aaload, 1) := by decide +kernel
theorem dX4_doNext_9 : decode cX4_doNext 9 = .ok (.astore_n 2, 1) := by decide +kernel
theorem dX4_doNext_10 : decode cX4_doNext 10 = .ok (.aload_n 0, 1) := by decide +kernel
theorem dX4_doNext_11 : decode cX4_doNext 11 = .ok (.getfield 26, 3) := by decide +kernel
theorem dX4_doNext_14 : decode cX4_doNext 14 = .ok (.aload_n 0, 1) := by decide +kernel
theorem dX4_doNext_15 : decode cX4_doNext 15 = .ok (.getfield 50, 3) := by decide +kernel
theorem dX4_doNext_18 : decode cX4_doNext 18 = .ok (.iaload, 1) := by decide +kernel
theorem dX4_doNext_19 : decode cX4_doNext 19 = .ok (.istore_n 3, 1) := by decide +kernel
theorem dX4_doNext_20 : decode cX4_doNext 20 = .ok (.aload_n 2, 1) := by decide +kernel
theorem dX4_doNext_21 : decode cX4_doNext 21 = .ok (.ifnull 12, 3) := by decide +kernel
theorem dX4_doNext_24 : decode cX4_doNext 24 = .ok (.aload_n 2, 1) := by decide +kernel
theorem dX4_doNext_25 : decode cX4_doNext 25 = .ok (.iload_n 3, 1) := by decide +kernel
theorem dX4_doNext_26 : decode cX4_doNext 26 = .ok (.i2l, 1) := by decide +kernel
theorem dX4_doNext_27 : decode cX4_doNext 27 = .ok (.invokevirtual 76, 3) := by decide +kernel
theorem dX4_doNext_30 : decode cX4_doNext 30 = .ok (.ifCond .ne 4, 3) := by decide +kernel
theorem dX4_doNext_33 : decode cX4_doNext 33 = .ok (.return_, 1) := by decide +kernel
theorem dX4_doNext_34 : decode cX4_doNext 34 = .ok (.aload_n 0, 1) := by decide +kernel
theorem dX4_doNext_35 : decode cX4_doNext 35 = .ok (.aload_n 1, 1) := by decide +kernel
theorem dX4_doNext_36 : decode cX4_doNext 36 = .ok (.aload_n 2, 1) := by decide +kernel
theorem dX4_doNext_37 : decode cX4_doNext 37 = .ok (.getfield 80, 3) := by decide +kernel
theorem dX4_doNext_40 : decode cX4_doNext 40 = .ok (.iload_n 3, 1) := by decide +kernel
theorem dX4_doNext_41 : decode cX4_doNext 41 = .ok (.iaload, 1) := by decide +kernel
theorem dX4_doNext_42 : decode cX4_doNext 42 = .ok (.aload_n 2, 1) := by decide +kernel
theorem dX4_doNext_43 : decode cX4_doNext 43 = .ok (.getfield 83, 3) := by decide +kernel
theorem dX4_doNext_46 : decode cX4_doNext 46 = .ok (.iload_n 3, 1) := by decide +kernel
theorem dX4_doNext_47 : decode cX4_doNext 47 = .ok (.laload, 1) := by decide +kernel
theorem dX4_doNext_48 : decode cX4_doNext 48 = .ok (.invokevirtual 86, 3) := by decide +kernel
theorem dX4_doNext_51 : decode cX4_doNext 51 = .ok (.istore 4, 2) := by decide +kernel
theorem dX4_doNext_53 : decode cX4_doNext 53 = .ok (.iload 4, 2) := by decide +kernel
theorem dX4_doNext_55 : decode cX4_doNext 55 = .ok (.ifCond .ne 18, 3) := by decide +kernel
theorem dX4_doNext_58 : decode cX4_doNext 58 = .ok (.aload_n 0, 1) := by decide +kernel
theorem dX4_doNext_59 : decode cX4_doNext 59 = .ok (.getfield 26, 3) := by decide +kernel
theorem dX4_doNext_62 : decode cX4_doNext 62 = .ok (.aload_n 0, 1) := by decide +kernel
theorem dX4_doNext_63 : decode cX4_doNext 63 = .ok (.getfield 50, 3) := by decide +kernel
theorem dX4_doNext_66 : decode cX4_doNext 66 = .ok (.iload_n 3, 1) := by decide +kernel
theorem dX4_doNext_67 : decode cX4_doNext 67 = .ok (.iconst 1, 1) := by decide +kernel
theorem dX4_doNext_68 : decode cX4_doNext 68 = .ok (.iadd, 1) := by decide +kernel
theorem dX4_doNext_69 : decode cX4_doNext 69 = .ok (.iastore, 1) := by decide +kernel
theorem dX4_doNext_70 : decode cX4_doNext 70 = .ok (.goto 15, 3) := by decide +kernel
theorem dX4_doNext_73 : decode cX4_doNext 73 = .ok (.iload 4, 2) := by decide +kernel
theorem dX4_doNext_75 : decode cX4_doNext 75 = .ok (.iconst (-1), 1) := by decide +kernel
theorem dX4_doNext_76 : decode cX4_doNext 76 = .ok (.if_icmp .eq 9, 3) := by decide +kernel
theorem dX4_doNext_79 : decode cX4_doNext 79 = .ok (.aload_n 0, 1) := by decide +kernel
theorem dX4_doNext_80 : decode cX4_doNext 80 = .ok (.iload 4, 2) := by decide +kernel
theorem dX4_doNext_82 : decode cX4_doNext 82 = .ok (.invokevirtual 90, 3) := by decide +kernel
theorem dX4_doNext_85 : decode cX4_doNext 85 = .ok (.return_, 1) := by decide +kernel
theorem dX4_arises_0 : decode cX4_arises 0 = .ok (.aload_n 0, 1) := by decide +kernel
theorem dX4_arises_1 : decode cX4_arises 1 = .ok (.dup, 1) := by decide +kernel
theorem dX4_arises_2 : decode cX4_arises 2 = .ok (.getfield 69, 3) := by decide +kernel
theorem dX4_arises_5 : decode cX4_arises 5 = .ok (.iconst 1, 1) := by decide +kernel
theorem dX4_arises_6 : decode cX4_arises 6 = .ok (.iadd, 1) := by decide +kernel
theorem dX4_arises_7 : decode cX4_arises 7 = .ok (.putfield 69, 3) := by decide +kernel
theorem dX4_arises_10 : decode cX4_arises 10 = .ok (.aload_n 0, 1) := by decide +kernel
theorem dX4_arises_11 : decode cX4_arises 11 = .ok (.getfield 22, 3) := by decide +kernel
theorem dX4_arises_14 : decode cX4_arises 14 = .ok (.aload_n 0, 1) := by decide +kernel
theorem dX4_arises_15 : decode cX4_arises 15 = .ok (.getfield 50, 3) := by decide +kernel
theorem dX4_arises_18 : decode cX4_arises 18 = .ok (.aaload, 1) := by decide +kernel
theorem dX4_arises_19 : decode cX4_arises 19 = .ok (.astore_n 2, 1) := by decide +kernel
theorem dX4_arises_20 : decode cX4_arises 20 = .ok (.aload_n 0, 1) := by decide +kernel
theorem dX4_arises_21 : decode cX4_arises 21 = .ok (.aload_n 2, 1) := by decide +kernel
theorem dX4_arises_22 : decode cX4_arises 22 = .ok (.ifnonnull 8, 3) := by decide +kernel
theorem dX4_arises_25 : decode cX4_arises 25 = .ok (.ldc 42, 2) := by decide +kernel
theorem dX4_arises_27 : decode cX4_arises 27 = .ok (.goto 7, 3) := by decide +kernel
theorem dX4_arises_30 : decode cX4_arises 30 = .ok (.aload_n 2, 1) := by decide +kernel
theorem dX4_arises_31 : decode cX4_arises 31 = .ok (.getfield 94, 3) := by decide +kernel
theorem dX4_arises_34 : decode cX4_arises 34 = .ok (.putfield 43, 3) := by decide +kernel
theorem dX4_arises_37 : decode cX4_arises 37 = .ok (.aload_n 0, 1) := by decide +kernel
theorem dX4_arises_38 : decode cX4_arises 38 = .ok (.aload_n 0, 1) := by decide +kernel
theorem dX4_arises_39 : decode cX4_arises 39 = .ok (.getfield 26, 3) := by decide +kernel
theorem dX4_arises_42 : decode cX4_arises 42 = .ok (.aload_n 0, 1) := by decide +kernel
theorem dX4_arises_43 : decode cX4_arises 43 = .ok (.getfield 50, 3) := by decide +kernel
theorem dX4_arises_46 : decode cX4_arises 46 = .ok (.iaload, 1) := by decide +kernel
theorem dX4_arises_47 : decode cX4_arises 47 = .ok (.putfield 47, 3) := by decide +kernel
theorem dX4_arises_50 : decode cX4_arises 50 = .ok (.iload_n 1, 1) := by decide +kernel
theorem dX4_arises_51 : decode cX4_arises 51 = .ok (.bipush 7, 2) := by decide +kernel
theorem dX4_arises_53 : decode cX4_arises 53 = .ok (.if_icmp .ne 10, 3) := by decide +kernel
theorem dX4_arises_56 : decode cX4_arises 56 = .ok (.aload_n 0, 1) := by decide +kernel
theorem dX4_arises_57 : decode cX4_arises 57 = .ok (.getfield 97, 3) := by decide +kernel
theorem dX4_arises_60 : decode cX4_arises 60 = .ok (.goto 4, 3) := by decide +kernel
theorem dX4_arises_63 : decode cX4_arises 63 = .ok (.iload_n 1, 1) := by decide +kernel
theorem dX4_arises_64 : decode cX4_arises 64 = .ok (.istore_n 3, 1) := by decide +kernel
theorem dX4_arises_65 : decode cX4_arises 65 = .ok (.aload_n 0, 1) := by decide +kernel
theorem dX4_arises_66 : decode cX4_arises 66 = .ok (.getfield 69, 3) := by decide +kernel
theorem dX4_arises_69 : decode cX4_arises 69 = .ok (.bipush 13, 2) := by decide +kernel
theorem dX4_arises_71 : decode cX4_arises 71 = .ok (.if_icmp .lt 11, 3) := by decide +kernel
theorem dX4_arises_74 : decode cX4_arises 74 = .ok (.aload_n 0, 1) := by decide +kernel
theorem dX4_arises_75 : decode cX4_arises 75 = .ok (.bipush 10, 2) := by decide +kernel
theorem dX4_arises_77 : decode cX4_arises 77 = .ok (.iload_n 3, 1) := by decide +kernel
theorem dX4_arises_78 : decode cX4_arises 78 = .ok (.invokevirtual 100, 3) := by decide +kernel
theorem dX4_arises_81 : decode cX4_arises 81 = .ok (.return_, 1) := by decide +kernel
theorem dX4_arises_82 : decode cX4_arises 82 = .ok (.aload_n 0, 1) := by decide +kernel
theorem dX4_arises_83 : decode cX4_arises 83 = .ok (.getfield 50, 3) := by decide +kernel
theorem dX4_arises_86 : decode cX4_arises 86 = .ok (.istore 4, 2) := by decide +kernel
theorem dX4_arises_88 : decode cX4_arises 88 = .ok (.iload 4, 2) := by decide +kernel
theorem dX4_arises_90 : decode cX4_arises 90 = .ok (.ifCond .lt 32, 3) := by decide +kernel
theorem dX4_arises_93 : decode cX4_arises 93 = .ok (.aload_n 0, 1) := by decide +kernel
theorem dX4_arises_94 : decode cX4_arises 94 = .ok (.iload 4, 2) := by decide +kernel
theorem dX4_arises_96 : decode cX4_arises 96 = .ok (.putfield 50, 3) := by decide +kernel
theorem dX4_arises_99 : decode cX4_arises 99 = .ok (.aload_n 0, 1) := by decide +kernel
theorem dX4_arises_100 : decode cX4_arises 100 = .ok (.aload_n 0, 1) := by decide +kernel
theorem dX4_arises_101 : decode cX4_arises 101 = .ok (.getfield 22, 3) := by decide +kernel
theorem dX4_arises_104 : decode cX4_arises 104 = .ok (.iload 4, 2) := by decide +kernel
theorem dX4_arises_106 : decode cX4_arises 106 = .ok (.aaload, 1) := by decide +kernel
theorem dX4_arises_107 : decode cX4_arises 107 = .ok (.iload_n 1, 1) := by decide +kernel
theorem dX4_arises_108 : decode cX4_arises 108 = .ok (.iload_n 3, 1) := by decide +kernel
theorem dX4_arises_109 : decode cX4_arises 109 = .ok (.invokevirtual 104, 3) := by decide +kernel
theorem dX4_arises_112 : decode cX4_arises 112 = .ok (.ifCond .eq 4, 3) := by decide +kernel
theorem dX4_arises_115 : decode cX4_arises 115 = .ok (.return_, 1) := by decide +kernel
theorem dX4_arises_116 : decode cX4_arises 116 = .ok (.iinc 4 (-1), 3) := by decide +kernel
theorem dX4_arises_119 : decode cX4_arises 119 = .ok (.goto (-31), 3) := by decide +kernel
theorem dX4_arises_122 : decode cX4_arises 122 = .ok (.aload_n 0, 1) := by decide +kernel
theorem dX4_arises_123 : decode cX4_arises 123 = .ok (.iload_n 1, 1) := by decide +kernel
theorem dX4_arises_124 : decode cX4_arises 124 = .ok (.iload_n 3, 1) := by decide +kernel
theorem dX4_arises_125 : decode cX4_arises 125 = .ok (.invokevirtual 100, 3) := by decide +kernel
theorem dX4_arises_128 : decode cX4_arises 128 = .ok (.return_, 1) := by decide +kernel
theorem dX4_catches_0 : decode cX4_catches 0 = .ok (.aload_n 1, 1) := by decide +kernel
theorem dX4_catches_1 : decode cX4_catches 1 = .ok (.ifnonnull 7, 3) := by decide +kernel
theorem dX4_catches_4 : decode cX4_catches 4 = .ok (.iconst (-1), 1) := by decide +kernel
theorem dX4_catches_5 : decode cX4_catches 5 = .ok (.goto 17, 3) := by decide +kernel
theorem dX4_catches_8 : decode cX4_catches 8 = .ok (.aload_n 1, 1) := by decide +kernel
theorem dX4_catches_9 : decode cX4_catches 9 = .ok (.aload_n 0, 1) := by decide +kernel
theorem dX4_catches_10 : decode cX4_catches 10 = .ok (.getfield 26, 3) := by decide +kernel
theorem dX4_catches_13 : decode cX4_catches 13 = .ok (.aload_n 0, 1) := by decide +kernel
theorem dX4_catches_14 : decode cX4_catches 14 = .ok (.getfield 50, 3) := by decide +kernel
theorem dX4_catches_17 : decode cX4_catches 17 = .ok (.iaload, 1) := by decide +kernel
theorem dX4_catches_18 : decode cX4_catches 18 = .ok (.iload_n 2, 1) := by decide +kernel
theorem dX4_catches_19 : decode cX4_catches 19 = .ok (.invokevirtual 108, 3) := by decide +kernel
theorem dX4_catches_22 : decode cX4_catches 22 = .ok (.istore 4, 2) := by decide +kernel
theorem dX4_catches_24 : decode cX4_catches 24 = .ok (.iload 4, 2) := by decide +kernel
theorem dX4_catches_26 : decode cX4_catches 26 = .ok (.ifCond .ge 5, 3) := by decide +kernel
theorem dX4_catches_29 : decode cX4_catches 29 = .ok (.iconst 0, 1) := by decide +kernel
theorem dX4_catches_30 : decode cX4_catches 30 = .ok (.ireturn, 1) := by decide +kernel
theorem dX4_catches_31 : decode cX4_catches 31 = .ok (.aload_n 0, 1) := by decide +kernel
theorem dX4_catches_32 : decode cX4_catches 32 = .ok (.getfield 26, 3) := by decide +kernel
theorem dX4_catches_35 : decode cX4_catches 35 = .ok (.aload_n 0, 1) := by decide +kernel
theorem dX4_catches_36 : decode cX4_catches 36 = .ok (.getfield 50, 3) := by decide +kernel
theorem dX4_catches_39 : decode cX4_catches 39 = .ok (.iload 4, 2) := by decide +kernel
theorem dX4_catches_41 : decode cX4_catches 41 = .ok (.iastore, 1) := by decide +kernel
theorem dX4_catches_42 : decode cX4_catches 42 = .ok (.aload_n 0, 1) := by decide +kernel
theorem dX4_catches_43 : decode cX4_catches 43 = .ok (.getfield 30, 3) := by decide +kernel
theorem dX4_catches_46 : decode cX4_catches 46 = .ok (.aload_n 0, 1) := by decide +kernel
theorem dX4_catches_47 : decode cX4_catches 47 = .ok (.getfield 50, 3) := by decide +kernel
theorem dX4_catches_50 : decode cX4_catches 50 = .ok (.iconst 0, 1) := by decide +kernel
theorem dX4_catches_51 : decode cX4_catches 51 = .ok (.iastore, 1) := by decide +kernel
theorem dX4_catches_52 : decode cX4_catches 52 = .ok (.aload_n 0, 1) := by decide +kernel
theorem dX4_catches_53 : decode cX4_catches 53 = .ok (.iload_n 3, 1) := by decide +kernel
theorem dX4_catches_54 : decode cX4_catches 54 = .ok (.i2l, 1) := by decide +kernel
theorem dX4_catches_55 : decode cX4_catches 55 = .ok (.invokevirtual 112, 3) := by decide +kernel
theorem dX4_catches_58 : decode cX4_catches 58 = .ok (.iconst 1, 1) := by decide +kernel
theorem dX4_catches_59 : decode cX4_catches 59 = .ok (.ireturn, 1) := by decide +kernel
theorem dX4_end_0 : decode cX4_end 0 = .ok (.aload_n 0, 1) := by decide +kernel
theorem dX4_end_1 : decode cX4_end 1 = .ok (.iload_n 1, 1) := by decide +kernel
theorem dX4_end_2 : decode cX4_end 2 = .ok (.putfield 60, 3) := by decide +kernel
theorem dX4_end_5 : decode cX4_end 5 = .ok (.aload_n 0, 1) := by decide +kernel
theorem dX4_end_6 : decode cX4_end 6 = .ok (.iload_n 2, 1) := by decide +kernel
theorem dX4_end_7 : decode cX4_end 7 = .ok (.putfield 63, 3) := by decide +kernel
theorem dX4_end_10 : decode cX4_end 10 = .ok (.return_, 1) := by decide +kernel
theorem dX4_push_0 : decode cX4_push 0 = .ok (.aload_n 0, 1) := by decide +kernel
theorem dX4_push_1 : decode cX4_push 1 = .ok (.getfield 30, 3) := by decide +kernel
theorem dX4_push_4 : decode cX4_push 4 = .ok (.aload_n 0, 1) := by decide +kernel
theorem dX4_push_5 : decode cX4_push 5 = .ok (.getfield 50, 3) := by decide +kernel
theorem dX4_push_8 : decode cX4_push 8 = .ok (.iaload, 1) := by decide +kernel
theorem dX4_push_9 : decode cX4_push 9 = .ok (.ifCond .lt 53, 3) := by decide +kernel
theorem dX4_push_12 : decode cX4_push 12 = .ok (.aload_n 0, 1) := by decide +kernel
theorem dX4_push_13 : decode cX4_push 13 = .ok (.getfield 30, 3) := by decide +kernel
theorem dX4_push_16 : decode cX4_push 16 = .ok (.aload_n 0, 1) := by decide +kernel
theorem dX4_push_17 : decode cX4_push 17 = .ok (.getfield 50, 3) := by decide +kernel
theorem dX4_push_20 : decode cX4_push 20 = .ok (.iaload, 1) := by decide +kernel
theorem dX4_push_21 : decode cX4_push 21 = .ok (.bipush 8, 2) := by decide +kernel
theorem dX4_push_23 : decode cX4_push 23 = .ok (.if_icmp .ge 39, 3) := by decide +kernel
theorem dX4_push_26 : decode cX4_push 26 = .ok (.aload_n 0, 1) := by decide +kernel
theorem dX4_push_27 : decode cX4_push 27 = .ok (.getfield 39, 3) := by decide +kernel
theorem dX4_push_30 : decode cX4_push 30 = .ok (.aload_n 0, 1) := by decide +kernel
theorem dX4_push_31 : decode cX4_push 31 = .ok (.getfield 50, 3) := by decide +kernel
theorem dX4_push_34 : decode cX4_push 34 = .ok (.bipush 8, 2) := by decide +kernel
theorem dX4_push_36 : decode cX4_push 36 = .ok (.imul, 1) := by decide +kernel
theorem dX4_push_37 : decode cX4_push 37 = .ok (.aload_n 0, 1) := by decide +kernel
theorem dX4_push_38 : decode cX4_push 38 = .ok (.getfield 30, 3) := by decide +kernel
theorem dX4_push_41 : decode cX4_push 41 = .ok (.aload_n 0, 1) := by decide +kernel
theorem dX4_push_42 : decode cX4_push 42 = .ok (.getfield 50, 3) := by decide +kernel
theorem dX4_push_45 : decode cX4_push 45 = .ok (.iaload, 1) := by decide +kernel
theorem dX4_push_46 : decode cX4_push 46 = .ok (.iadd, 1) := by decide +kernel
theorem dX4_push_47 : decode cX4_push 47 = .ok (.lload_n 1, 1) := by decide +kernel
theorem dX4_push_48 : decode cX4_push 48 = .ok (.lastore, 1) := by decide +kernel
theorem dX4_push_49 : decode cX4_push 49 = .ok (.aload_n 0, 1) := by decide +kernel
theorem dX4_push_50 : decode cX4_push 50 = .ok (.getfield 30, 3) := by decide +kernel
theorem dX4_push_53 : decode cX4_push 53 = .ok (.aload_n 0, 1) := by decide +kernel
theorem dX4_push_54 : decode cX4_push 54 = .ok (.getfield 50, 3) := by decide +kernel
theorem dX4_push_57 : decode cX4_push 57 = .ok (.dup2, 1) := by decide +kernel
theorem dX4_push_58 : decode cX4_push 58 = .ok (.iaload, 1) := by decide +kernel
theorem dX4_push_59 : decode cX4_push 59 = .ok (.iconst 1, 1) := by decide +kernel
theorem dX4_push_60 : decode cX4_push 60 = .ok (.iadd, 1) := by decide +kernel
theorem dX4_push_61 : decode cX4_push 61 = .ok (.iastore, 1) := by decide +kernel
theorem dX4_push_62 : decode cX4_push 62 = .ok (.return_, 1) := by decide +kernel
theorem dX4_pop_0 : decode cX4_pop 0 = .ok (.aload_n 0, 1) := by decide +kernel
theorem dX4_pop_1 : decode cX4_pop 1 = .ok (.getfield 30, 3) := by decide +kernel
theorem dX4_pop_4 : decode cX4_pop 4 = .ok (.aload_n 0, 1) := by decide +kernel
theorem dX4_pop_5 : decode cX4_pop 5 = .ok (.getfield 50, 3) := by decide +kernel
theorem dX4_pop_8 : decode cX4_pop 8 = .ok (.iaload, 1) := by decide +kernel
theorem dX4_pop_9 : decode cX4_pop 9 = .ok (.ifCond .le 17, 3) := by decide +kernel
theorem dX4_pop_12 : decode cX4_pop 12 = .ok (.aload_n 0, 1) := by decide +kernel
theorem dX4_pop_13 : decode cX4_pop 13 = .ok (.getfield 30, 3) := by decide +kernel
theorem dX4_pop_16 : decode cX4_pop 16 = .ok (.aload_n 0, 1) := by decide +kernel
theorem dX4_pop_17 : decode cX4_pop 17 = .ok (.getfield 50, 3) := by decide +kernel
theorem dX4_pop_20 : decode cX4_pop 20 = .ok (.iaload, 1) := by decide +kernel
theorem dX4_pop_21 : decode cX4_pop 21 = .ok (.bipush 8, 2) := by decide +kernel
theorem dX4_pop_23 : decode cX4_pop 23 = .ok (.if_icmp .le 5, 3) := by decide +kernel
theorem dX4_pop_26 : decode cX4_pop 26 = .ok (.lconst 0, 1) := by decide +kernel
theorem dX4_pop_27 : decode cX4_pop 27 = .ok (.lreturn, 1) := by decide +kernel
theorem dX4_pop_28 : decode cX4_pop 28 = .ok (.aload_n 0, 1) := by decide +kernel
theorem dX4_pop_29 : decode cX4_pop 29 = .ok (.getfield 30, 3) := by decide +kernel
theorem dX4_pop_32 : decode cX4_pop 32 = .ok (.aload_n 0, 1) := by decide +kernel
theorem dX4_pop_33 : decode cX4_pop 33 = .ok (.getfield 50, 3) := by decide +kernel
theorem dX4_pop_36 : decode cX4_pop 36 = .ok (.dup2, 1) := by decide +kernel
theorem dX4_pop_37 : decode cX4_pop 37 = .ok (.iaload, 1) := by decide +kernel
theorem dX4_pop_38 : decode cX4_pop 38 = .ok (.iconst 1, 1) := by decide +kernel
theorem dX4_pop_39 : decode cX4_pop 39 = .ok (.isub, 1) := by decide +kernel
theorem dX4_pop_40 : decode cX4_pop 40 = .ok (.iastore, 1) := by decide +kernel
theorem dX4_pop_41 : decode cX4_pop 41 = .ok (.aload_n 0, 1) := by decide +kernel
theorem dX4_pop_42 : decode cX4_pop 42 = .ok (.getfield 39, 3) := by decide +kernel
theorem dX4_pop_45 : decode cX4_pop 45 = .ok (.aload_n 0, 1) := by decide +kernel
theorem dX4_pop_46 : decode cX4_pop 46 = .ok (.getfield 50, 3) := by decide +kernel
theorem dX4_pop_49 : decode cX4_pop 49 = .ok (.bipush 8, 2) := by decide +kernel
theorem dX4_pop_51 : decode cX4_pop 51 = .ok (.imul, 1) := by decide +kernel
theorem dX4_pop_52 : decode cX4_pop 52 = .ok (.aload_n 0, 1) := by decide +kernel
theorem dX4_pop_53 : decode cX4_pop 53 = .ok (.getfield 30, 3) := by decide +kernel
theorem dX4_pop_56 : decode cX4_pop 56 = .ok (.aload_n 0, 1) := by decide +kernel
theorem dX4_pop_57 : decode cX4_pop 57 = .ok (.getfield 50, 3) := by decide +kernel
theorem dX4_pop_60 : decode cX4_pop 60 = .ok (.iaload, 1) := by decide +kernel
theorem dX4_pop_61 : decode cX4_pop 61 = .ok (.iadd, 1) := by decide +kernel
theorem dX4_pop_62 : decode cX4_pop 62 = .ok (.laload, 1) := by decide +kernel
theorem dX4_pop_63 : decode cX4_pop 63 = .ok (.lreturn, 1) := by decide +kernel
theorem dX4_popInt_0 : decode cX4_popInt 0 = .ok (.aload_n 0, 1) := by decide +kernel
theorem dX4_popInt_1 : decode cX4_popInt 1 = .ok (.invokevirtual 116, 3) := by decide +kernel
theorem dX4_popInt_4 : decode cX4_popInt 4 = .ok (.l2i, 1) := by decide +kernel
theorem dX4_popInt_5 : decode cX4_popInt 5 = .ok (.ireturn, 1) := by decide +kernel
theorem dX4_pushLong_0 : decode cX4_pushLong 0 = .ok (.aload_n 0, 1) := by decide +kernel
theorem dX4_pushLong_1 : decode cX4_pushLong 1 = .ok (.lload_n 1, 1) := by decide +kernel
theorem dX4_pushLong_2 : decode cX4_pushLong 2 = .ok (.invokevirtual 112, 3) := by decide +kernel
theorem dX4_pushLong_5 : decode cX4_pushLong 5 = .ok (.aload_n 0, 1) := by decide +kernel
theorem dX4_pushLong_6 : decode cX4_pushLong 6 = .ok (.lconst 0, 1) := by decide +kernel
theorem dX4_pushLong_7 : decode cX4_pushLong 7 = .ok (.invokevirtual 112, 3) := by decide +kernel
theorem dX4_pushLong_10 : decode cX4_pushLong 10 = .ok (.return_, 1) := by decide +kernel
theorem dX4_popLong_0 : decode cX4_popLong 0 = .ok (.aload_n 0, 1) := by decide +kernel
theorem dX4_popLong_1 : decode cX4_popLong 1 = .ok (.invokevirtual 116, 3) := by decide +kernel
theorem dX4_popLong_4 : decode cX4_popLong 4 = .ok (.pop2, 1) := by decide +kernel
theorem dX4_popLong_5 : decode cX4_popLong 5 = .ok (.aload_n 0, 1) := by decide +kernel
theorem dX4_popLong_6 : decode cX4_popLong 6 = .ok (.invokevirtual 116, 3) := by decide +kernel
theorem dX4_popLong_9 : decode cX4_popLong 9 = .ok (.lreturn, 1) := by decide +kernel
theorem dX4_does_0 : decode cX4_does 0 = .ok (.iload_n 2, 1) := by decide +kernel
theorem dX4_does_1 : decode cX4_does 1 = .ok (.bipush 6, 2) := by decide +kernel
theorem dX4_does_3 : decode cX4_does 3 = .ok (.if_icmp .gt 10, 3) := by decide +kernel
theorem dX4_does_6 : decode cX4_does 6 = .ok (.aload_n 0, 1) := by decide +kernel
theorem dX4_does_7 : decode cX4_does 7 = .ok (.iload_n 2, 1) := by decide +kernel
theorem dX4_does_8 : decode cX4_does 8 = .ok (.lload_n 3, 1) := by decide +kernel
theorem dX4_does_9 : decode cX4_does 9 = .ok (.invokevirtual 122, 3) := by decide +kernel
theorem dX4_does_12 : decode cX4_does 12 = .ok (.ireturn, 1) := by decide +kernel
theorem dX4_does_13 : decode cX4_does 13 = .ok (.iload_n 2, 1) := by decide +kernel
theorem dX4_does_14 : decode cX4_does 14 = .ok (.bipush 11, 2) := by decide +kernel
theorem dX4_does_16 : decode cX4_does 16 = .ok (.if_icmp .gt 10, 3) := by decide +kernel
theorem dX4_does_19 : decode cX4_does 19 = .ok (.aload_n 0, 1) := by decide +kernel
