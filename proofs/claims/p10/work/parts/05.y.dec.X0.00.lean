theorem dX0_init_0 : decode cX0_init 0 = .ok (.aload_n 0, 1) := by decide +kernel
theorem dX0_init_1 : decode cX0_init 1 = .ok (.invokespecial 3, 3) := by decide +kernel
theorem dX0_init_4 : decode cX0_init 4 = .ok (.aload_n 0, 1) := by decide +kernel
theorem dX0_init_5 : decode cX0_init 5 = .ok (.bipush 40, 2) := by decide +kernel
theorem dX0_init_7 : decode cX0_init 7 = .ok (.newarray .int, 2) := by decide +kernel
theorem dX0_init_9 : decode cX0_init 9 = .ok (.putfield 11, 3) := by decide +kernel
theorem dX0_init_12 : decode cX0_init 12 = .ok (.aload_n 0, 1) := by decide +kernel
theorem dX0_init_13 : decode cX0_init 13 = .ok (.bipush 40, 2) := by decide +kernel
theorem dX0_init_15 : decode cX0_init 15 = .ok (.newarray .long, 2) := by decide +kernel
theorem dX0_init_17 : decode cX0_init 17 = .ok (.putfield 15, 3) := by decide +kernel
theorem dX0_init_20 : decode cX0_init 20 = .ok (.aload_n 0, 1) := by decide +kernel
theorem dX0_init_21 : decode cX0_init 21 = .ok (.bipush 6, 2) := by decide +kernel
theorem dX0_init_23 : decode cX0_init 23 = .ok (.newarray .int, 2) := by decide +kernel
theorem dX0_init_25 : decode cX0_init 25 = .ok (.putfield 19, 3) := by decide +kernel
theorem dX0_init_28 : decode cX0_init 28 = .ok (.aload_n 0, 1) := by decide +kernel
theorem dX0_init_29 : decode cX0_init 29 = .ok (.bipush 6, 2) := by decide +kernel
theorem dX0_init_31 : decode cX0_init 31 = .ok (.newarray .int, 2) := by decide +kernel
theorem dX0_init_33 : decode cX0_init 33 = .ok (.putfield 22, 3) := by decide +kernel
theorem dX0_init_36 : decode cX0_init 36 = .ok (.aload_n 0, 1) := by decide +kernel
theorem dX0_init_37 : decode cX0_init 37 = .ok (.bipush 6, 2) := by decide +kernel
theorem dX0_init_39 : decode cX0_init 39 = .ok (.newarray .int, 2) := by decide +kernel
theorem dX0_init_41 : decode cX0_init 41 = .ok (.putfield 25, 3) := by decide +kernel
theorem dX0_init_44 : decode cX0_init 44 = .ok (.aload_n 0, 1) := by decide +kernel
theorem dX0_init_45 : decode cX0_init 45 = .ok (.bipush 6, 2) := by decide +kernel
theorem dX0_init_47 : decode cX0_init 47 = .ok (.newarray .int, 2) := by decide +kernel
theorem dX0_init_49 : decode cX0_init 49 = .ok (.putfield 28, 3) := by decide +kernel
theorem dX0_init_52 : decode cX0_init 52 = .ok (.aload_n 0, 1) := by decide +kernel
theorem dX0_init_53 : decode cX0_init 53 = .ok (.bipush 40, 2) := by decide +kernel
theorem dX0_init_55 : decode cX0_init 55 = .ok (.anewarray 31, 3) := by decide +kernel
theorem dX0_init_58 : decode cX0_init 58 = .ok (.putfield 33, 3) := by decide +kernel
theorem dX0_init_61 : decode cX0_init 61 = .ok (.aload_n 0, 1) := by decide +kernel
theorem dX0_init_62 : decode cX0_init 62 = .ok (.iload_n 1, 1) := by decide +kernel
theorem dX0_init_63 : decode cX0_init 63 = .ok (.putfield 37, 3) := by decide +kernel
theorem dX0_init_66 : decode cX0_init 66 = .ok (.aload_n 0, 1) := by decide +kernel
theorem dX0_init_67 : decode cX0_init 67 = .ok (.iload_n 2, 1) := by decide +kernel
theorem dX0_init_68 : decode cX0_init 68 = .ok (.putfield 41, 3) := by decide +kernel
theorem dX0_init_71 : decode cX0_init 71 = .ok (.return_, 1) := by decide +kernel
theorem dX0_addInstruction_0 : decode cX0_addInstruction 0 = .ok (.aload_n 0, 1) := by decide +kernel
theorem dX0_addInstruction_1 : decode cX0_addInstruction 1 = .ok (.getfield 44, 3) := by decide +kernel
theorem dX0_addInstruction_4 : decode cX0_addInstruction 4 = .ok (.bipush 40, 2) := by decide +kernel
theorem dX0_addInstruction_6 : decode cX0_addInstruction 6 = .ok (.if_icmp .lt 6, 3) := by decide +kernel
theorem dX0_addInstruction_9 : decode cX0_addInstruction 9 = .ok (.bipush (-3), 2) := by decide +kernel
theorem dX0_addInstruction_11 : decode cX0_addInstruction 11 = .ok (.ireturn, 1) := by decide +kernel
theorem dX0_addInstruction_12 : decode cX0_addInstruction 12 = .ok (.aload_n 0, 1) := by decide +kernel
theorem dX0_addInstruction_13 : decode cX0_addInstruction 13 = .ok (.getfield 11, 3) := by decide +kernel
theorem dX0_addInstruction_16 : decode cX0_addInstruction 16 = .ok (.aload_n 0, 1) := by decide +kernel
theorem dX0_addInstruction_17 : decode cX0_addInstruction 17 = .ok (.getfield 44, 3) := by decide +kernel
theorem dX0_addInstruction_20 : decode cX0_addInstruction 20 = .ok (.iload_n 1, 1) := by decide +kernel
theorem dX0_addInstruction_21 : decode cX0_addInstruction 21 = .ok (.iastore, 1) := by decide +kernel
theorem dX0_addInstruction_22 : decode cX0_addInstruction 22 = .ok (.aload_n 0, 1) := by decide +kernel
theorem dX0_addInstruction_23 : decode cX0_addInstruction 23 = .ok (.getfield 15, 3) := by decide +kernel
theorem dX0_addInstruction_26 : decode cX0_addInstruction 26 = .ok (.aload_n 0, 1) := by decide +kernel
theorem dX0_addInstruction_27 : decode cX0_addInstruction 27 = .ok (.getfield 44, 3) := by decide +kernel
theorem dX0_addInstruction_30 : decode cX0_addInstruction 30 = .ok (.lload_n 2, 1) := by decide +kernel
theorem dX0_addInstruction_31 : decode cX0_addInstruction 31 = .ok (.lastore, 1) := by decide +kernel
theorem dX0_addInstruction_32 : decode cX0_addInstruction 32 = .ok (.aload_n 0, 1) := by decide +kernel
theorem dX0_addInstruction_33 : decode cX0_addInstruction 33 = .ok (.iconst 0, 1) := by decide +kernel
theorem dX0_addInstruction_34 : decode cX0_addInstruction 34 = .ok (.putfield 47, 3) := by decide +kernel
theorem dX0_addInstruction_37 : decode cX0_addInstruction 37 = .ok (.aload_n 0, 1) := by decide +kernel
theorem dX0_addInstruction_38 : decode cX0_addInstruction 38 = .ok (.dup, 1) := by decide +kernel
theorem dX0_addInstruction_39 : decode cX0_addInstruction 39 = .ok (.getfield 44, 3) := by decide +kernel
theorem dX0_addInstruction_42 : decode cX0_addInstruction 42 = .ok (.iconst 1, 1) := by decide +kernel
theorem dX0_addInstruction_43 : decode cX0_addInstruction 43 = .ok (.iadd, 1) := by decide +kernel
theorem dX0_addInstruction_44 : decode cX0_addInstruction 44 = .ok (.putfield 44, 3) := by decide +kernel
theorem dX0_addInstruction_47 : decode cX0_addInstruction 47 = .ok (.aload_n 0, 1) := by decide +kernel
theorem dX0_addInstruction_48 : decode cX0_addInstruction 48 = .ok (.getfield 44, 3) := by decide +kernel
theorem dX0_addInstruction_51 : decode cX0_addInstruction 51 = .ok (.iconst 1, 1) := by decide +kernel
theorem dX0_addInstruction_52 : decode cX0_addInstruction 52 = .ok (.isub, 1) := by decide +kernel
theorem dX0_addInstruction_53 : decode cX0_addInstruction 53 = .ok (.ireturn, 1) := by decide +kernel
theorem dX0_addHandler_0 : decode cX0_addHandler 0 = .ok (.aload_n 0, 1) := by decide +kernel
theorem dX0_addHandler_1 : decode cX0_addHandler 1 = .ok (.getfield 51, 3) := by decide +kernel
theorem dX0_addHandler_4 : decode cX0_addHandler 4 = .ok (.bipush 6, 2) := by decide +kernel
theorem dX0_addHandler_6 : decode cX0_addHandler 6 = .ok (.if_icmp .lt 6, 3) := by decide +kernel
theorem dX0_addHandler_9 : decode cX0_addHandler 9 = .ok (.bipush (-3), 2) := by decide +kernel
theorem dX0_addHandler_11 : decode cX0_addHandler 11 = .ok (.ireturn, 1) := by decide +kernel
theorem dX0_addHandler_12 : decode cX0_addHandler 12 = .ok (.aload_n 0, 1) := by decide +kernel
theorem dX0_addHandler_13 : decode cX0_addHandler 13 = .ok (.getfield 19, 3) := by decide +kernel
theorem dX0_addHandler_16 : decode cX0_addHandler 16 = .ok (.aload_n 0, 1) := by decide +kernel
theorem dX0_addHandler_17 : decode cX0_addHandler 17 = .ok (.getfield 51, 3) := by decide +kernel
theorem dX0_addHandler_20 : decode cX0_addHandler 20 = .ok (.iload_n 1, 1) := by decide +kernel
theorem dX0_addHandler_21 : decode cX0_addHandler 21 = .ok (.iastore, 1) := by decide +kernel
theorem dX0_addHandler_22 : decode cX0_addHandler 22 = .ok (.aload_n 0, 1) := by decide +kernel
theorem dX0_addHandler_23 : decode cX0_addHandler 23 = .ok (.getfield 22, 3) := by decide +kernel
theorem dX0_addHandler_26 : decode cX0_addHandler 26 = .ok (.aload_n 0, 1) := by decide +kernel
theorem dX0_addHandler_27 : decode cX0_addHandler 27 = .ok (.getfield 51, 3) := by decide +kernel
theorem dX0_addHandler_30 : decode cX0_addHandler 30 = .ok (.iload_n 2, 1) := by decide +kernel
theorem dX0_addHandler_31 : decode cX0_addHandler 31 = .ok (.iastore, 1) := by decide +kernel
theorem dX0_addHandler_32 : decode cX0_addHandler 32 = .ok (.aload_n 0, 1) := by decide +kernel
theorem dX0_addHandler_33 : decode cX0_addHandler 33 = .ok (.getfield 25, 3) := by decide +kernel
theorem dX0_addHandler_36 : decode cX0_addHandler 36 = .ok (.aload_n 0, 1) := by decide +kernel
theorem dX0_addHandler_37 : decode cX0_addHandler 37 = .ok (.getfield 51, 3) := by decide +kernel
theorem dX0_addHandler_40 : decode cX0_addHandler 40 = .ok (.iload_n 3, 1) := by decide +kernel
theorem dX0_addHandler_41 : decode cX0_addHandler 41 = .ok (.iastore, 1) := by decide +kernel
theorem dX0_addHandler_42 : decode cX0_addHandler 42 = .ok (.aload_n 0, 1) := by decide +kernel
theorem dX0_addHandler_43 : decode cX0_addHandler 43 = .ok (.getfield 28, 3) := by decide +kernel
theorem dX0_addHandler_46 : decode cX0_addHandler 46 = .ok (.aload_n 0, 1) := by decide +kernel
theorem dX0_addHandler_47 : decode cX0_addHandler 47 = .ok (.getfield 51, 3) := by decide +kernel
theorem dX0_addHandler_50 : decode cX0_addHandler 50 = .ok (.iload 4, 2) := by decide +kernel
theorem dX0_addHandler_52 : decode cX0_addHandler 52 = .ok (.iastore, 1) := by decide +kernel
theorem dX0_addHandler_53 : decode cX0_addHandler 53 = .ok (.aload_n 0, 1) := by decide +kernel
theorem dX0_addHandler_54 : decode cX0_addHandler 54 = .ok (.iconst 0, 1) := by decide +kernel
theorem dX0_addHandler_55 : decode cX0_addHandler 55 = .ok (.putfield 47, 3) := by decide +kernel
theorem dX0_addHandler_58 : decode cX0_addHandler 58 = .ok (.aload_n 0, 1) := by decide +kernel
theorem dX0_addHandler_59 : decode cX0_addHandler 59 = .ok (.dup, 1) := by decide +kernel
theorem dX0_addHandler_60 : decode cX0_addHandler 60 = .ok (.getfield 51, 3) := by decide +kernel
theorem dX0_addHandler_63 : decode cX0_addHandler 63 = .ok (.iconst 1, 1) := by decide +kernel
theorem dX0_addHandler_64 : decode cX0_addHandler 64 = .ok (.iadd, 1) := by decide +kernel
theorem dX0_addHandler_65 : decode cX0_addHandler 65 = .ok (.putfield 51, 3) := by decide +kernel
theorem dX0_addHandler_68 : decode cX0_addHandler 68 = .ok (.aload_n 0, 1) := by decide +kernel
theorem dX0_addHandler_69 : decode cX0_addHandler 69 = .ok (.getfield 51, 3) := by decide +kernel
theorem dX0_addHandler_72 : decode cX0_addHandler 72 = .ok (.ireturn, 1) := by decide +kernel
theorem dX0_putFrame_0 : decode cX0_putFrame 0 = .ok (.iload_n 1, 1) := by decide +kernel
theorem dX0_putFrame_1 : decode cX0_putFrame 1 = .ok (.ifCond .lt 9, 3) := by decide +kernel
theorem dX0_putFrame_4 : decode cX0_putFrame 4 = .ok (.iload_n 1, 1) := by decide +kernel
theorem dX0_putFrame_5 : decode cX0_putFrame 5 = .ok (.bipush 40, 2) := by decide +kernel
theorem dX0_putFrame_7 : decode cX0_putFrame 7 = .ok (.if_icmp .lt 4, 3) := by decide +kernel
theorem dX0_putFrame_10 : decode cX0_putFrame 10 = .ok (.return_, 1) := by decide +kernel
theorem dX0_putFrame_11 : decode cX0_putFrame 11 = .ok (.aload_n 0, 1) := by decide +kernel
theorem dX0_putFrame_12 : decode cX0_putFrame 12 = .ok (.getfield 33, 3) := by decide +kernel
theorem dX0_putFrame_15 : decode cX0_putFrame 15 = .ok (.iload_n 1, 1) := by decide +kernel
theorem dX0_putFrame_16 : decode cX0_putFrame 16 = .ok (.aaload, 1) := by decide +kernel
theorem dX0_putFrame_17 : decode cX0_putFrame 17 = .ok (.ifnonnull 16, 3) := by decide +kernel
theorem dX0_putFrame_20 : decode cX0_putFrame 20 = .ok (.aload_n 0, 1) := by decide +kernel
theorem dX0_putFrame_21 : decode cX0_putFrame 21 = .ok (.getfield 33, 3) := by decide +kernel
theorem dX0_putFrame_24 : decode cX0_putFrame 24 = .ok (.iload_n 1, 1) := by decide +kernel
theorem dX0_putFrame_25 : decode cX0_putFrame 25 = .ok (.new 31, 3) := by decide +kernel
theorem dX0_putFrame_28 : decode cX0_putFrame 28 = .ok (.dup, 1) := by decide +kernel
theorem dX0_putFrame_29 : decode cX0_putFrame 29 = .ok (.invokespecial 54, 3) := by decide +kernel
theorem dX0_putFrame_32 : decode cX0_putFrame 32 = .ok (.aastore, 1) := by decide +kernel
theorem dX0_putFrame_33 : decode cX0_putFrame 33 = .ok (.aload_n 0, 1) := by decide +kernel
theorem dX0_putFrame_34 : decode cX0_putFrame 34 = .ok (.getfield 33, 3) := by decide +kernel
theorem dX0_putFrame_37 : decode cX0_putFrame 37 = .ok (.iload_n 1, 1) := by decide +kernel
theorem dX0_putFrame_38 : decode cX0_putFrame 38 = .ok (.aaload, 1) := by decide +kernel
theorem dX0_putFrame_39 : decode cX0_putFrame 39 = .ok (.iload_n 2, 1) := by decide +kernel
theorem dX0_putFrame_40 : decode cX0_putFrame 40 = .ok (.invokevirtual 55, 3) := by decide +kernel
theorem dX0_putFrame_43 : decode cX0_putFrame 43 = .ok (.aload_n 0, 1) := by decide +kernel
theorem dX0_putFrame_44 : decode cX0_putFrame 44 = .ok (.iconst 0, 1) := by decide +kernel
theorem dX0_putFrame_45 : decode cX0_putFrame 45 = .ok (.putfield 47, 3) := by decide +kernel
theorem dX0_putFrame_48 : decode cX0_putFrame 48 = .ok (.return_, 1) := by decide +kernel
theorem dX0_frameOf_0 : decode cX0_frameOf 0 = .ok (.iload_n 1, 1) := by decide +kernel
theorem dX0_frameOf_1 : decode cX0_frameOf 1 = .ok (.ifCond .lt 9, 3) := by decide +kernel
theorem dX0_frameOf_4 : decode cX0_frameOf 4 = .ok (.iload_n 1, 1) := by decide +kernel
theorem dX0_frameOf_5 : decode cX0_frameOf 5 = .ok (.bipush 40, 2) := by decide +kernel
theorem dX0_frameOf_7 : decode cX0_frameOf 7 = .ok (.if_icmp .lt 5, 3) := by decide +kernel
theorem dX0_frameOf_10 : decode cX0_frameOf 10 = .ok (.aconst_null, 1) := by decide +kernel
theorem dX0_frameOf_11 : decode cX0_frameOf 11 = .ok (.areturn, 1) := by decide +kernel
theorem dX0_frameOf_12 : decode cX0_frameOf 12 = .ok (.aload_n 0, 1) := by decide +kernel
theorem dX0_frameOf_13 : decode cX0_frameOf 13 = .ok (.getfield 33, 3) := by decide +kernel
theorem dX0_frameOf_16 : decode cX0_frameOf 16 = .ok (.iload_n 1, 1) := by decide +kernel
theorem dX0_frameOf_17 : decode cX0_frameOf 17 = .ok (.aaload, 1) := by decide +kernel
theorem dX0_frameOf_18 : decode cX0_frameOf 18 = .ok (.astore_n 2, 1) := by decide +kernel
theorem dX0_frameOf_19 : decode cX0_frameOf 19 = .ok (.aload_n 2, 1) := by decide +kernel
theorem dX0_frameOf_20 : decode cX0_frameOf 20 = .ok (.ifnull 10, 3) := by decide +kernel
theorem dX0_frameOf_23 : decode cX0_frameOf 23 = .ok (.aload_n 2, 1) := by decide +kernel
theorem dX0_frameOf_24 : decode cX0_frameOf 24 = .ok (.getfield 59, 3) := by decide +kernel
theorem dX0_frameOf_27 : decode cX0_frameOf 27 = .ok (.ifCond .ge 7, 3) := by decide +kernel
theorem dX0_frameOf_30 : decode cX0_frameOf 30 = .ok (.aconst_null, 1) := by decide +kernel
theorem dX0_frameOf_31 : decode cX0_frameOf 31 = .ok (.goto 4, 3) := by decide +kernel
theorem dX0_frameOf_34 : decode cX0_frameOf 34 = .ok (.aload_n 2, 1) := by decide +kernel
theorem dX0_frameOf_35 : decode cX0_frameOf 35 = .ok (.areturn, 1) := by decide +kernel
theorem dX0_hasInstruction_0 : decode cX0_hasInstruction 0 = .ok (.lload_n 1, 1) := by decide +kernel
theorem dX0_hasInstruction_1 : decode cX0_hasInstruction 1 = .ok (.lconst 0, 1) := by decide +kernel
theorem dX0_hasInstruction_2 : decode cX0_hasInstruction 2 = .ok (.lcmp, 1) := by decide +kernel
theorem dX0_hasInstruction_3 : decode cX0_hasInstruction 3 = .ok (.ifCond .lt 17, 3) := by decide +kernel
theorem dX0_hasInstruction_6 : decode cX0_hasInstruction 6 = .ok (.lload_n 1, 1) := by decide +kernel
theorem dX0_hasInstruction_7 : decode cX0_hasInstruction 7 = .ok (.aload_n 0, 1) := by decide +kernel
theorem dX0_hasInstruction_8 : decode cX0_hasInstruction 8 = .ok (.getfield 44, 3) := by decide +kernel
theorem dX0_hasInstruction_11 : decode cX0_hasInstruction 11 = .ok (.i2l, 1) := by decide +kernel
theorem dX0_hasInstruction_12 : decode cX0_hasInstruction 12 = .ok (.lcmp, 1) := by decide +kernel
theorem dX0_hasInstruction_13 : decode cX0_hasInstruction 13 = .ok (.ifCond .ge 7, 3) := by decide +kernel
theorem dX0_hasInstruction_16 : decode cX0_hasInstruction 16 = .ok (.iconst 1, 1) := by decide +kernel
theorem dX0_hasInstruction_17 : decode cX0_hasInstruction 17 = .ok (.goto 4, 3) := by decide +kernel
theorem dX0_hasInstruction_20 : decode cX0_hasInstruction 20 = .ok (.iconst 0, 1) := by decide +kernel
theorem dX0_hasInstruction_21 : decode cX0_hasInstruction 21 = .ok (.ireturn, 1) := by decide +kernel
theorem dX0_covers_0 : decode cX0_covers 0 = .ok (.iload_n 1, 1) := by decide +kernel
theorem dX0_covers_1 : decode cX0_covers 1 = .ok (.ifCond .lt 35, 3) := by decide +kernel
theorem dX0_covers_4 : decode cX0_covers 4 = .ok (.iload_n 1, 1) := by decide +kernel
theorem dX0_covers_5 : decode cX0_covers 5 = .ok (.aload_n 0, 1) := by decide +kernel
theorem dX0_covers_6 : decode cX0_covers 6 = .ok (.getfield 51, 3) := by decide +kernel
theorem dX0_covers_9 : decode cX0_covers 9 = .ok (.if_icmp .ge 27, 3) := by decide +kernel
theorem dX0_covers_12 : decode cX0_covers 12 = .ok (.aload_n 0, 1) := by decide +kernel
theorem dX0_covers_13 : decode cX0_covers 13 = .ok (.getfield 19, 3) := by decide +kernel
theorem dX0_covers_16 : decode cX0_covers 16 = .ok (.iload_n 1, 1) := by decide +kernel
theorem dX0_covers_17 : decode cX0_covers 17 = .ok (.iaload, 1) := by decide +kernel
theorem dX0_covers_18 : decode cX0_covers 18 = .ok (.iload_n 2, 1) := by decide +kernel
theorem dX0_covers_19 : decode cX0_covers 19 = .ok (.if_icmp .gt 17, 3) := by decide +kernel
theorem dX0_covers_22 : decode cX0_covers 22 = .ok (.iload_n 2, 1) := by decide +kernel
theorem dX0_covers_23 : decode cX0_covers 23 = .ok (.aload_n 0, 1) := by decide +kernel
theorem dX0_covers_24 : decode cX0_covers 24 = .ok (.getfield 22, 3) := by decide +kernel
theorem dX0_covers_27 : decode cX0_covers 27 = .ok (.iload_n 1, 1) := by decide +kernel
theorem dX0_covers_28 : decode cX0_covers 28 = .ok (.iaload, 1) := by decide +kernel
theorem dX0_covers_29 : decode cX0_covers 29 = .ok (.if_icmp .ge 7, 3) := by decide +kernel
theorem dX0_covers_32 : decode cX0_covers 32 = .ok (.iconst 1, 1) := by decide +kernel
theorem dX0_covers_33 : decode cX0_covers 33 = .ok (.goto 4, 3) := by decide +kernel
theorem dX0_covers_36 : decode cX0_covers 36 = .ok (.iconst 0, 1) := by decide +kernel
theorem dX0_covers_37 : decode cX0_covers 37 = .ok (.ireturn, 1) := by decide +kernel
theorem dX0_handlerFor_0 : decode cX0_handlerFor 0 = .ok (.iconst 0, 1) := by decide +kernel
theorem dX0_handlerFor_1 : decode cX0_handlerFor 1 = .ok (.istore_n 3, 1) := by decide +kernel
theorem dX0_handlerFor_2 : decode cX0_handlerFor 2 = .ok (.iload_n 3, 1) := by decide +kernel
theorem dX0_handlerFor_3 : decode cX0_handlerFor 3 = .ok (.aload_n 0, 1) := by decide +kernel
theorem dX0_handlerFor_4 : decode cX0_handlerFor 4 = .ok (.getfield 51, 3) := by decide +kernel
theorem dX0_handlerFor_7 : decode cX0_handlerFor 7 = .ok (.if_icmp .ge 50, 3) := by decide +kernel
theorem dX0_handlerFor_10 : decode cX0_handlerFor 10 = .ok (.iload_n 3, 1) := by decide +kernel
theorem dX0_handlerFor_11 : decode cX0_handlerFor 11 = .ok (.bipush 6, 2) := by decide +kernel
theorem dX0_handlerFor_13 : decode cX0_handlerFor 13 = .ok (.if_icmp .ge 44, 3) := by decide +kernel
theorem dX0_handlerFor_16 : decode cX0_handlerFor 16 = .ok (.aload_n 0, 1) := by decide +kernel
theorem dX0_handlerFor_17 : decode cX0_handlerFor 17 = .ok (.iload_n 3, 1) := by decide +kernel
theorem dX0_handlerFor_18 : decode cX0_handlerFor 18 = .ok (.iload_n 1, 1) := by decide +kernel
theorem dX0_handlerFor_19 : decode cX0_handlerFor 19 = .ok (.invokevirtual 62, 3) := by decide +kernel
theorem dX0_handlerFor_22 : decode cX0_handlerFor 22 = .ok (.ifCond .eq 29, 3) := by decide +kernel
theorem dX0_handlerFor_25 : decode cX0_handlerFor 25 = .ok (.aload_n 0, 1) := by decide +kernel
theorem dX0_handlerFor_26 : decode cX0_handlerFor 26 = .ok (.getfield 28, 3) := by decide +kernel
theorem dX0_handlerFor_29 : decode cX0_handlerFor 29 = .ok (.iload_n 3, 1) := by decide +kernel
theorem dX0_handlerFor_30 : decode cX0_handlerFor 30 = .ok (.iaload, 1) := by decide +kernel
theorem dX0_handlerFor_31 : decode cX0_handlerFor 31 = .ok (.iload_n 2, 1) := by decide +kernel
theorem dX0_handlerFor_32 : decode cX0_handlerFor 32 = .ok (.if_icmp .eq 12, 3) := by decide +kernel
theorem dX0_handlerFor_35 : decode cX0_handlerFor 35 = .ok (.aload_n 0, 1) := by decide +kernel
theorem dX0_handlerFor_36 : decode cX0_handlerFor 36 = .ok (.getfield 28, 3) := by decide +kernel
theorem dX0_handlerFor_39 : decode cX0_handlerFor 39 = .ok (.iload_n 3, 1) := by decide +kernel
theorem dX0_handlerFor_40 : decode cX0_handlerFor 40 = .ok (.iaload, 1) := by decide +kernel
theorem dX0_handlerFor_41 : decode cX0_handlerFor 41 = .ok (.ifCond .ne 10, 3) := by decide +kernel
theorem dX0_handlerFor_44 : decode cX0_handlerFor 44 = .ok (.aload_n 0, 1) := by decide +kernel
theorem dX0_handlerFor_45 : decode cX0_handlerFor 45 = .ok (.getfield 25, 3) := by decide +kernel
theorem dX0_handlerFor_48 : decode cX0_handlerFor 48 = .ok (.iload_n 3, 1) := by decide +kernel
theorem dX0_handlerFor_49 : decode cX0_handlerFor 49 = .ok (.iaload, 1) := by decide +kernel
theorem dX0_handlerFor_50 : decode cX0_handlerFor 50 = .ok (.ireturn, 1) := by decide +kernel
theorem dX0_handlerFor_51 : decode cX0_handlerFor 51 = .ok (.iinc 3 1, 3) := by decide +kernel
theorem dX0_handlerFor_54 : decode cX0_handlerFor 54 = .ok (.goto (-52), 3) := by decide +kernel
theorem dX0_handlerFor_57 : decode cX0_handlerFor 57 = .ok (.iconst (-1), 1) := by decide +kernel
theorem dX0_handlerFor_58 : decode cX0_handlerFor 58 = .ok (.ireturn, 1) := by decide +kernel
theorem dX0_called_0 : decode cX0_called 0 = .ok (.iconst 0, 1) := by decide +kernel
theorem dX0_called_1 : decode cX0_called 1 = .ok (.istore_n 1, 1) := by decide +kernel
theorem dX0_called_2 : decode cX0_called 2 = .ok (.iconst 0, 1) := by decide +kernel
theorem dX0_called_3 : decode cX0_called 3 = .ok (.istore_n 2, 1) := by decide +kernel
theorem dX0_called_4 : decode cX0_called 4 = .ok (.iload_n 2, 1) := by decide +kernel
theorem dX0_called_5 : decode cX0_called 5 = .ok (.aload_n 0, 1) := by decide +kernel
theorem dX0_called_6 : decode cX0_called 6 = .ok (.getfield 44, 3) := by decide +kernel
theorem dX0_called_9 : decode cX0_called 9 = .ok (.if_icmp .ge 64, 3) := by decide +kernel
theorem dX0_called_12 : decode cX0_called 12 = .ok (.iload_n 2, 1) := by decide +kernel
theorem dX0_called_13 : decode cX0_called 13 = .ok (.bipush 40, 2) := by decide +kernel
theorem dX0_called_15 : decode cX0_called 15 = .ok (.if_icmp .ge 58, 3) := by decide +kernel
theorem dX0_called_18 : decode cX0_called 18 = .ok (.aload_n 0, 1) := by decide +kernel
theorem dX0_called_19 : decode cX0_called 19 = .ok (.getfield 11, 3) := by decide +kernel
theorem dX0_called_22 : decode cX0_called 22 = .ok (.iload_n 2, 1) := by decide +kernel
theorem dX0_called_23 : decode cX0_called 23 = .ok (.iaload, 1) := by decide +kernel
theorem dX0_called_24 : decode cX0_called 24 = .ok (.bipush 33, 2) := by decide +kernel
theorem dX0_called_26 : decode cX0_called 26 = .ok (.if_icmp .ne 41, 3) := by decide +kernel
theorem dX0_called_29 : decode cX0_called 29 = .ok (.aload_n 0, 1) := by decide +kernel
theorem dX0_called_30 : decode cX0_called 30 = .ok (.getfield 15, 3) := by decide +kernel
theorem dX0_called_33 : decode cX0_called 33 = .ok (.iload_n 2, 1) := by decide +kernel
theorem dX0_called_34 : decode cX0_called 34 = .ok (.laload, 1) := by decide +kernel
theorem dX0_called_35 : decode cX0_called 35 = .ok (.lconst 0, 1) := by decide +kernel
theorem dX0_called_36 : decode cX0_called 36 = .ok (.lcmp, 1) := by decide +kernel
theorem dX0_called_37 : decode cX0_called 37 = .ok (.ifCond .lt 30, 3) := by decide +kernel
theorem dX0_called_40 : decode cX0_called 40 = .ok (.aload_n 0, 1) := by decide +kernel
theorem dX0_called_41 : decode cX0_called 41 = .ok (.getfield 15, 3) := by decide +kernel
theorem dX0_called_44 : decode cX0_called 44 = .ok (.iload_n 2, 1) := by decide +kernel
theorem dX0_called_45 : decode cX0_called 45 = .ok (.laload, 1) := by decide +kernel
theorem dX0_called_46 : decode cX0_called 46 = .ok (.aload_n 0, 1) := by decide +kernel
theorem dX0_called_47 : decode cX0_called 47 = .ok (.getfield 37, 3) := by decide +kernel
theorem dX0_called_50 : decode cX0_called 50 = .ok (.i2l, 1) := by decide +kernel
theorem dX0_called_51 : decode cX0_called 51 = .ok (.lcmp, 1) := by decide +kernel
theorem dX0_called_52 : decode cX0_called 52 = .ok (.ifCond .ge 15, 3) := by decide +kernel
theorem dX0_called_55 : decode cX0_called 55 = .ok (.iload_n 1, 1) := by decide +kernel
theorem dX0_called_56 : decode cX0_called 56 = .ok (.iconst 1, 1) := by decide +kernel
theorem dX0_called_57 : decode cX0_called 57 = .ok (.aload_n 0, 1) := by decide +kernel
theorem dX0_called_58 : decode cX0_called 58 = .ok (.getfield 15, 3) := by decide +kernel
theorem dX0_called_61 : decode cX0_called 61 = .ok (.iload_n 2, 1) := by decide +kernel
theorem dX0_called_62 : decode cX0_called 62 = .ok (.laload, 1) := by decide +kernel
theorem dX0_called_63 : decode cX0_called 63 = .ok (.l2i, 1) := by decide +kernel
theorem dX0_called_64 : decode cX0_called 64 = .ok (.ishl, 1) := by decide +kernel
theorem dX0_called_65 : decode cX0_called 65 = .ok (.ior, 1) := by decide +kernel
theorem dX0_called_66 : decode cX0_called 66 = .ok (.istore_n 1, 1) := by decide +kernel
theorem dX0_called_67 : decode cX0_called 67 = .ok (.iinc 2 1, 3) := by decide +kernel
theorem dX0_called_70 : decode cX0_called 70 = .ok (.goto (-66), 3) := by decide +kernel
theorem dX0_called_73 : decode cX0_called 73 = .ok (.iload_n 1, 1) := by decide +kernel
theorem dX0_called_74 : decode cX0_called 74 = .ok (.ireturn, 1) := by decide +kernel
