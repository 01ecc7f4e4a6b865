theorem dX7_init_0 : decode cX7_init 0 = .ok (.aload_n 0, 1) := by decide +kernel
theorem dX7_init_1 : decode cX7_init 1 = .ok (.invokespecial 3, 3) := by decide +kernel
theorem dX7_init_4 : decode cX7_init 4 = .ok (.aload_n 0, 1) := by decide +kernel
theorem dX7_init_5 : decode cX7_init 5 = .ok (.bipush 8, 2) := by decide +kernel
theorem dX7_init_7 : decode cX7_init 7 = .ok (.anewarray 11, 3) := by decide +kernel
theorem dX7_init_10 : decode cX7_init 10 = .ok (.putfield 13, 3) := by decide +kernel
theorem dX7_init_13 : decode cX7_init 13 = .ok (.return_, 1) := by decide +kernel
theorem dX7_add_0 : decode cX7_add 0 = .ok (.aload_n 0, 1) := by decide +kernel
theorem dX7_add_1 : decode cX7_add 1 = .ok (.getfield 17, 3) := by decide +kernel
theorem dX7_add_4 : decode cX7_add 4 = .ok (.bipush 8, 2) := by decide +kernel
theorem dX7_add_6 : decode cX7_add 6 = .ok (.if_icmp .lt 6, 3) := by decide +kernel
theorem dX7_add_9 : decode cX7_add 9 = .ok (.bipush (-3), 2) := by decide +kernel
theorem dX7_add_11 : decode cX7_add 11 = .ok (.ireturn, 1) := by decide +kernel
theorem dX7_add_12 : decode cX7_add 12 = .ok (.aload_n 0, 1) := by decide +kernel
theorem dX7_add_13 : decode cX7_add 13 = .ok (.getfield 13, 3) := by decide +kernel
theorem dX7_add_16 : decode cX7_add 16 = .ok (.aload_n 0, 1) := by decide +kernel
theorem dX7_add_17 : decode cX7_add 17 = .ok (.getfield 17, 3) := by decide +kernel
theorem dX7_add_20 : decode cX7_add 20 = .ok (.new 11, 3) := by decide +kernel
theorem dX7_add_23 : decode cX7_add 23 = .ok (.dup, 1) := by decide +kernel
theorem dX7_add_24 : decode cX7_add 24 = .ok (.aload_n 0, 1) := by decide +kernel
theorem dX7_add_25 : decode cX7_add 25 = .ok (.getfield 17, 3) := by decide +kernel
theorem dX7_add_28 : decode cX7_add 28 = .ok (.iload_n 1, 1) := by decide +kernel
theorem dX7_add_29 : decode cX7_add 29 = .ok (.invokespecial 21, 3) := by decide +kernel
theorem dX7_add_32 : decode cX7_add 32 = .ok (.aastore, 1) := by decide +kernel
theorem dX7_add_33 : decode cX7_add 33 = .ok (.aload_n 0, 1) := by decide +kernel
theorem dX7_add_34 : decode cX7_add 34 = .ok (.dup, 1) := by decide +kernel
theorem dX7_add_35 : decode cX7_add 35 = .ok (.getfield 17, 3) := by decide +kernel
theorem dX7_add_38 : decode cX7_add 38 = .ok (.iconst 1, 1) := by decide +kernel
theorem dX7_add_39 : decode cX7_add 39 = .ok (.iadd, 1) := by decide +kernel
theorem dX7_add_40 : decode cX7_add 40 = .ok (.putfield 17, 3) := by decide +kernel
theorem dX7_add_43 : decode cX7_add 43 = .ok (.aload_n 0, 1) := by decide +kernel
theorem dX7_add_44 : decode cX7_add 44 = .ok (.getfield 17, 3) := by decide +kernel
theorem dX7_add_47 : decode cX7_add 47 = .ok (.iconst 1, 1) := by decide +kernel
theorem dX7_add_48 : decode cX7_add 48 = .ok (.isub, 1) := by decide +kernel
theorem dX7_add_49 : decode cX7_add 49 = .ok (.ireturn, 1) := by decide +kernel
theorem dX7_at_0 : decode cX7_at 0 = .ok (.lload_n 1, 1) := by decide +kernel
theorem dX7_at_1 : decode cX7_at 1 = .ok (.lconst 0, 1) := by decide +kernel
theorem dX7_at_2 : decode cX7_at 2 = .ok (.lcmp, 1) := by decide +kernel
theorem dX7_at_3 : decode cX7_at 3 = .ok (.ifCond .lt 23, 3) := by decide +kernel
theorem dX7_at_6 : decode cX7_at 6 = .ok (.lload_n 1, 1) := by decide +kernel
theorem dX7_at_7 : decode cX7_at 7 = .ok (.aload_n 0, 1) := by decide +kernel
theorem dX7_at_8 : decode cX7_at 8 = .ok (.getfield 17, 3) := by decide +kernel
theorem dX7_at_11 : decode cX7_at 11 = .ok (.i2l, 1) := by decide +kernel
theorem dX7_at_12 : decode cX7_at 12 = .ok (.lcmp, 1) := by decide +kernel
theorem dX7_at_13 : decode cX7_at 13 = .ok (.ifCond .ge 13, 3) := by decide +kernel
theorem dX7_at_16 : decode cX7_at 16 = .ok (.aload_n 0, 1) := by decide +kernel
theorem dX7_at_17 : decode cX7_at 17 = .ok (.getfield 13, 3) := by decide +kernel
theorem dX7_at_20 : decode cX7_at 20 = .ok (.lload_n 1, 1) := by decide +kernel
theorem dX7_at_21 : decode cX7_at 21 = .ok (.l2i, 1) := by decide +kernel
theorem dX7_at_22 : decode cX7_at 22 = .ok (.aaload, 1) := by decide +kernel
theorem dX7_at_23 : decode cX7_at 23 = .ok (.goto 4, 3) := by decide +kernel
theorem dX7_at_26 : decode cX7_at 26 = .ok (.aconst_null, 1) := by decide +kernel
theorem dX7_at_27 : decode cX7_at 27 = .ok (.areturn, 1) := by decide +kernel
theorem dX7_isReady_0 : decode cX7_isReady 0 = .ok (.iload_n 1, 1) := by decide +kernel
theorem dX7_isReady_1 : decode cX7_isReady 1 = .ok (.ifCond .lt 9, 3) := by decide +kernel
theorem dX7_isReady_4 : decode cX7_isReady 4 = .ok (.iload_n 1, 1) := by decide +kernel
theorem dX7_isReady_5 : decode cX7_isReady 5 = .ok (.bipush 8, 2) := by decide +kernel
theorem dX7_isReady_7 : decode cX7_isReady 7 = .ok (.if_icmp .lt 5, 3) := by decide +kernel
theorem dX7_isReady_10 : decode cX7_isReady 10 = .ok (.iconst 0, 1) := by decide +kernel
theorem dX7_isReady_11 : decode cX7_isReady 11 = .ok (.ireturn, 1) := by decide +kernel
theorem dX7_isReady_12 : decode cX7_isReady 12 = .ok (.iconst 1, 1) := by decide +kernel
theorem dX7_isReady_13 : decode cX7_isReady 13 = .ok (.iload_n 1, 1) := by decide +kernel
theorem dX7_isReady_14 : decode cX7_isReady 14 = .ok (.ishl, 1) := by decide +kernel
theorem dX7_isReady_15 : decode cX7_isReady 15 = .ok (.istore_n 2, 1) := by decide +kernel
theorem dX7_isReady_16 : decode cX7_isReady 16 = .ok (.iload_n 1, 1) := by decide +kernel
theorem dX7_isReady_17 : decode cX7_isReady 17 = .ok (.istore_n 3, 1) := by decide +kernel
theorem dX7_isReady_18 : decode cX7_isReady 18 = .ok (.iload_n 3, 1) := by decide +kernel
theorem dX7_isReady_19 : decode cX7_isReady 19 = .ok (.ifCond .lt 49, 3) := by decide +kernel
theorem dX7_isReady_22 : decode cX7_isReady 22 = .ok (.iload_n 2, 1) := by decide +kernel
theorem dX7_isReady_23 : decode cX7_isReady 23 = .ok (.iload_n 3, 1) := by decide +kernel
theorem dX7_isReady_24 : decode cX7_isReady 24 = .ok (.ishr, 1) := by decide +kernel
theorem dX7_isReady_25 : decode cX7_isReady 25 = .ok (.iconst 1, 1) := by decide +kernel
theorem dX7_isReady_26 : decode cX7_isReady 26 = .ok (.iand, 1) := by decide +kernel
theorem dX7_isReady_27 : decode cX7_isReady 27 = .ok (.iconst 1, 1) := by decide +kernel
theorem dX7_isReady_28 : decode cX7_isReady 28 = .ok (.if_icmp .ne 34, 3) := by decide +kernel
theorem dX7_isReady_31 : decode cX7_isReady 31 = .ok (.aload_n 0, 1) := by decide +kernel
theorem dX7_isReady_32 : decode cX7_isReady 32 = .ok (.getfield 13, 3) := by decide +kernel
theorem dX7_isReady_35 : decode cX7_isReady 35 = .ok (.iload_n 3, 1) := by decide +kernel
theorem dX7_isReady_36 : decode cX7_isReady 36 = .ok (.aaload, 1) := by decide +kernel
theorem dX7_isReady_37 : decode cX7_isReady 37 = .ok (.astore 4, 2) := by decide +kernel
theorem dX7_isReady_39 : decode cX7_isReady 39 = .ok (.aload 4, 2) := by decide +kernel
theorem dX7_isReady_41 : decode cX7_isReady 41 = .ok (.ifnull 11, 3) := by decide +kernel
theorem dX7_isReady_44 : decode cX7_isReady 44 = .ok (.aload 4, 2) := by decide +kernel
theorem dX7_isReady_46 : decode cX7_isReady 46 = .ok (.getfield 24, 3) := by decide +kernel
theorem dX7_isReady_49 : decode cX7_isReady 49 = .ok (.ifCond .ne 5, 3) := by decide +kernel
theorem dX7_isReady_52 : decode cX7_isReady 52 = .ok (.iconst 0, 1) := by decide +kernel
theorem dX7_isReady_53 : decode cX7_isReady 53 = .ok (.ireturn, 1) := by decide +kernel
theorem dX7_isReady_54 : decode cX7_isReady 54 = .ok (.iload_n 2, 1) := by decide +kernel
theorem dX7_isReady_55 : decode cX7_isReady 55 = .ok (.aload 4, 2) := by decide +kernel
theorem dX7_isReady_57 : decode cX7_isReady 57 = .ok (.invokevirtual 28, 3) := by decide +kernel
theorem dX7_isReady_60 : decode cX7_isReady 60 = .ok (.ior, 1) := by decide +kernel
theorem dX7_isReady_61 : decode cX7_isReady 61 = .ok (.istore_n 2, 1) := by decide +kernel
theorem dX7_isReady_62 : decode cX7_isReady 62 = .ok (.iinc 3 (-1), 3) := by decide +kernel
theorem dX7_isReady_65 : decode cX7_isReady 65 = .ok (.goto (-47), 3) := by decide +kernel
theorem dX7_isReady_68 : decode cX7_isReady 68 = .ok (.iconst 1, 1) := by decide +kernel
theorem dX7_isReady_69 : decode cX7_isReady 69 = .ok (.ireturn, 1) := by decide +kernel
