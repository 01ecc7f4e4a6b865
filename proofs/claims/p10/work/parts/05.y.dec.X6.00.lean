theorem dX6_init_0 : decode cX6_init 0 = .ok (.aload_n 0, 1) := by decide +kernel
theorem dX6_init_1 : decode cX6_init 1 = .ok (.invokespecial 1, 3) := by decide +kernel
theorem dX6_init_4 : decode cX6_init 4 = .ok (.aload_n 0, 1) := by decide +kernel
theorem dX6_init_5 : decode cX6_init 5 = .ok (.bipush 16, 2) := by decide +kernel
theorem dX6_init_7 : decode cX6_init 7 = .ok (.newarray .int, 2) := by decide +kernel
theorem dX6_init_9 : decode cX6_init 9 = .ok (.putfield 9, 3) := by decide +kernel
theorem dX6_init_12 : decode cX6_init 12 = .ok (.aload_n 0, 1) := by decide +kernel
theorem dX6_init_13 : decode cX6_init 13 = .ok (.iconst (-1), 1) := by decide +kernel
theorem dX6_init_14 : decode cX6_init 14 = .ok (.putfield 13, 3) := by decide +kernel
theorem dX6_init_17 : decode cX6_init 17 = .ok (.return_, 1) := by decide +kernel
theorem dX6_clear_0 : decode cX6_clear 0 = .ok (.iconst 0, 1) := by decide +kernel
theorem dX6_clear_1 : decode cX6_clear 1 = .ok (.istore_n 2, 1) := by decide +kernel
theorem dX6_clear_2 : decode cX6_clear 2 = .ok (.iload_n 2, 1) := by decide +kernel
theorem dX6_clear_3 : decode cX6_clear 3 = .ok (.bipush 16, 2) := by decide +kernel
theorem dX6_clear_5 : decode cX6_clear 5 = .ok (.if_icmp .ge 16, 3) := by decide +kernel
theorem dX6_clear_8 : decode cX6_clear 8 = .ok (.aload_n 0, 1) := by decide +kernel
theorem dX6_clear_9 : decode cX6_clear 9 = .ok (.getfield 9, 3) := by decide +kernel
theorem dX6_clear_12 : decode cX6_clear 12 = .ok (.iload_n 2, 1) := by decide +kernel
theorem dX6_clear_13 : decode cX6_clear 13 = .ok (.iconst 0, 1) := by decide +kernel
theorem dX6_clear_14 : decode cX6_clear 14 = .ok (.iastore, 1) := by decide +kernel
theorem dX6_clear_15 : decode cX6_clear 15 = .ok (.iinc 2 1, 3) := by decide +kernel
theorem dX6_clear_18 : decode cX6_clear 18 = .ok (.goto (-16), 3) := by decide +kernel
theorem dX6_clear_21 : decode cX6_clear 21 = .ok (.aload_n 0, 1) := by decide +kernel
theorem dX6_clear_22 : decode cX6_clear 22 = .ok (.iload_n 1, 1) := by decide +kernel
theorem dX6_clear_23 : decode cX6_clear 23 = .ok (.putfield 13, 3) := by decide +kernel
theorem dX6_clear_26 : decode cX6_clear 26 = .ok (.return_, 1) := by decide +kernel
theorem dX6_begin_0 : decode cX6_begin 0 = .ok (.aload_n 0, 1) := by decide +kernel
theorem dX6_begin_1 : decode cX6_begin 1 = .ok (.iconst 0, 1) := by decide +kernel
theorem dX6_begin_2 : decode cX6_begin 2 = .ok (.invokevirtual 19, 3) := by decide +kernel
theorem dX6_begin_5 : decode cX6_begin 5 = .ok (.iconst 0, 1) := by decide +kernel
theorem dX6_begin_6 : decode cX6_begin 6 = .ok (.istore_n 2, 1) := by decide +kernel
theorem dX6_begin_7 : decode cX6_begin 7 = .ok (.iload_n 2, 1) := by decide +kernel
theorem dX6_begin_8 : decode cX6_begin 8 = .ok (.iload_n 1, 1) := by decide +kernel
theorem dX6_begin_9 : decode cX6_begin 9 = .ok (.if_icmp .ge 22, 3) := by decide +kernel
theorem dX6_begin_12 : decode cX6_begin 12 = .ok (.iload_n 2, 1) := by decide +kernel
theorem dX6_begin_13 : decode cX6_begin 13 = .ok (.bipush 8, 2) := by decide +kernel
theorem dX6_begin_15 : decode cX6_begin 15 = .ok (.if_icmp .ge 16, 3) := by decide +kernel
theorem dX6_begin_18 : decode cX6_begin 18 = .ok (.aload_n 0, 1) := by decide +kernel
theorem dX6_begin_19 : decode cX6_begin 19 = .ok (.getfield 9, 3) := by decide +kernel
theorem dX6_begin_22 : decode cX6_begin 22 = .ok (.iload_n 2, 1) := by decide +kernel
theorem dX6_begin_23 : decode cX6_begin 23 = .ok (.iconst 1, 1) := by decide +kernel
theorem dX6_begin_24 : decode cX6_begin 24 = .ok (.iastore, 1) := by decide +kernel
theorem dX6_begin_25 : decode cX6_begin 25 = .ok (.iinc 2 1, 3) := by decide +kernel
theorem dX6_begin_28 : decode cX6_begin 28 = .ok (.goto (-21), 3) := by decide +kernel
theorem dX6_begin_31 : decode cX6_begin 31 = .ok (.return_, 1) := by decide +kernel
theorem dX6_copyFrom_0 : decode cX6_copyFrom 0 = .ok (.aload_n 1, 1) := by decide +kernel
theorem dX6_copyFrom_1 : decode cX6_copyFrom 1 = .ok (.getfield 9, 3) := by decide +kernel
theorem dX6_copyFrom_4 : decode cX6_copyFrom 4 = .ok (.iconst 0, 1) := by decide +kernel
theorem dX6_copyFrom_5 : decode cX6_copyFrom 5 = .ok (.aload_n 0, 1) := by decide +kernel
theorem dX6_copyFrom_6 : decode cX6_copyFrom 6 = .ok (.getfield 9, 3) := by decide +kernel
theorem dX6_copyFrom_9 : decode cX6_copyFrom 9 = .ok (.iconst 0, 1) := by decide +kernel
theorem dX6_copyFrom_10 : decode cX6_copyFrom 10 = .ok (.bipush 16, 2) := by decide +kernel
theorem dX6_copyFrom_12 : decode cX6_copyFrom 12 = .ok (.invokestatic 23, 3) := by decide +kernel
theorem dX6_copyFrom_15 : decode cX6_copyFrom 15 = .ok (.aload_n 0, 1) := by decide +kernel
theorem dX6_copyFrom_16 : decode cX6_copyFrom 16 = .ok (.aload_n 1, 1) := by decide +kernel
theorem dX6_copyFrom_17 : decode cX6_copyFrom 17 = .ok (.getfield 13, 3) := by decide +kernel
theorem dX6_copyFrom_20 : decode cX6_copyFrom 20 = .ok (.putfield 13, 3) := by decide +kernel
theorem dX6_copyFrom_23 : decode cX6_copyFrom 23 = .ok (.return_, 1) := by decide +kernel
theorem dX6_has_0 : decode cX6_has 0 = .ok (.aload_n 0, 1) := by decide +kernel
theorem dX6_has_1 : decode cX6_has 1 = .ok (.getfield 13, 3) := by decide +kernel
theorem dX6_has_4 : decode cX6_has 4 = .ok (.ifCond .lt 22, 3) := by decide +kernel
theorem dX6_has_7 : decode cX6_has 7 = .ok (.iload_n 1, 1) := by decide +kernel
theorem dX6_has_8 : decode cX6_has 8 = .ok (.ifCond .lt 18, 3) := by decide +kernel
theorem dX6_has_11 : decode cX6_has 11 = .ok (.iload_n 1, 1) := by decide +kernel
theorem dX6_has_12 : decode cX6_has 12 = .ok (.bipush 8, 2) := by decide +kernel
theorem dX6_has_14 : decode cX6_has 14 = .ok (.aload_n 0, 1) := by decide +kernel
theorem dX6_has_15 : decode cX6_has 15 = .ok (.getfield 13, 3) := by decide +kernel
theorem dX6_has_18 : decode cX6_has 18 = .ok (.iadd, 1) := by decide +kernel
theorem dX6_has_19 : decode cX6_has 19 = .ok (.if_icmp .ge 7, 3) := by decide +kernel
theorem dX6_has_22 : decode cX6_has 22 = .ok (.iconst 1, 1) := by decide +kernel
theorem dX6_has_23 : decode cX6_has 23 = .ok (.goto 4, 3) := by decide +kernel
theorem dX6_has_26 : decode cX6_has 26 = .ok (.iconst 0, 1) := by decide +kernel
theorem dX6_has_27 : decode cX6_has 27 = .ok (.ireturn, 1) := by decide +kernel
theorem dX6_exchange_0 : decode cX6_exchange 0 = .ok (.aload_n 0, 1) := by decide +kernel
theorem dX6_exchange_1 : decode cX6_exchange 1 = .ok (.iload_n 1, 1) := by decide +kernel
theorem dX6_exchange_2 : decode cX6_exchange 2 = .ok (.invokevirtual 29, 3) := by decide +kernel
theorem dX6_exchange_5 : decode cX6_exchange 5 = .ok (.ifCond .ne 5, 3) := by decide +kernel
theorem dX6_exchange_8 : decode cX6_exchange 8 = .ok (.iconst 0, 1) := by decide +kernel
theorem dX6_exchange_9 : decode cX6_exchange 9 = .ok (.ireturn, 1) := by decide +kernel
theorem dX6_exchange_10 : decode cX6_exchange 10 = .ok (.aload_n 0, 1) := by decide +kernel
theorem dX6_exchange_11 : decode cX6_exchange 11 = .ok (.getfield 9, 3) := by decide +kernel
theorem dX6_exchange_14 : decode cX6_exchange 14 = .ok (.iload_n 1, 1) := by decide +kernel
theorem dX6_exchange_15 : decode cX6_exchange 15 = .ok (.iaload, 1) := by decide +kernel
theorem dX6_exchange_16 : decode cX6_exchange 16 = .ok (.istore_n 3, 1) := by decide +kernel
theorem dX6_exchange_17 : decode cX6_exchange 17 = .ok (.aload_n 0, 1) := by decide +kernel
theorem dX6_exchange_18 : decode cX6_exchange 18 = .ok (.getfield 9, 3) := by decide +kernel
theorem dX6_exchange_21 : decode cX6_exchange 21 = .ok (.iload_n 1, 1) := by decide +kernel
theorem dX6_exchange_22 : decode cX6_exchange 22 = .ok (.iload_n 2, 1) := by decide +kernel
theorem dX6_exchange_23 : decode cX6_exchange 23 = .ok (.iastore, 1) := by decide +kernel
theorem dX6_exchange_24 : decode cX6_exchange 24 = .ok (.iload_n 3, 1) := by decide +kernel
theorem dX6_exchange_25 : decode cX6_exchange 25 = .ok (.ireturn, 1) := by decide +kernel
theorem dX6_becomeCaught_0 : decode cX6_becomeCaught 0 = .ok (.aload_n 0, 1) := by decide +kernel
theorem dX6_becomeCaught_1 : decode cX6_becomeCaught 1 = .ok (.aload_n 1, 1) := by decide +kernel
theorem dX6_becomeCaught_2 : decode cX6_becomeCaught 2 = .ok (.invokevirtual 33, 3) := by decide +kernel
theorem dX6_becomeCaught_5 : decode cX6_becomeCaught 5 = .ok (.aload_n 0, 1) := by decide +kernel
theorem dX6_becomeCaught_6 : decode cX6_becomeCaught 6 = .ok (.iconst 0, 1) := by decide +kernel
theorem dX6_becomeCaught_7 : decode cX6_becomeCaught 7 = .ok (.putfield 13, 3) := by decide +kernel
theorem dX6_becomeCaught_10 : decode cX6_becomeCaught 10 = .ok (.aload_n 0, 1) := by decide +kernel
theorem dX6_becomeCaught_11 : decode cX6_becomeCaught 11 = .ok (.iconst 1, 1) := by decide +kernel
theorem dX6_becomeCaught_12 : decode cX6_becomeCaught 12 = .ok (.invokevirtual 37, 3) := by decide +kernel
theorem dX6_becomeCaught_15 : decode cX6_becomeCaught 15 = .ok (.pop, 1) := by decide +kernel
theorem dX6_becomeCaught_16 : decode cX6_becomeCaught 16 = .ok (.return_, 1) := by decide +kernel
theorem dX6_goesTo_0 : decode cX6_goesTo 0 = .ok (.aload_n 0, 1) := by decide +kernel
theorem dX6_goesTo_1 : decode cX6_goesTo 1 = .ok (.getfield 13, 3) := by decide +kernel
theorem dX6_goesTo_4 : decode cX6_goesTo 4 = .ok (.aload_n 1, 1) := by decide +kernel
theorem dX6_goesTo_5 : decode cX6_goesTo 5 = .ok (.getfield 13, 3) := by decide +kernel
theorem dX6_goesTo_8 : decode cX6_goesTo 8 = .ok (.if_icmp .eq 5, 3) := by decide +kernel
theorem dX6_goesTo_11 : decode cX6_goesTo 11 = .ok (.iconst 0, 1) := by decide +kernel
theorem dX6_goesTo_12 : decode cX6_goesTo 12 = .ok (.ireturn, 1) := by decide +kernel
theorem dX6_goesTo_13 : decode cX6_goesTo 13 = .ok (.iconst 0, 1) := by decide +kernel
theorem dX6_goesTo_14 : decode cX6_goesTo 14 = .ok (.istore_n 2, 1) := by decide +kernel
theorem dX6_goesTo_15 : decode cX6_goesTo 15 = .ok (.iload_n 2, 1) := by decide +kernel
theorem dX6_goesTo_16 : decode cX6_goesTo 16 = .ok (.bipush 16, 2) := by decide +kernel
theorem dX6_goesTo_18 : decode cX6_goesTo 18 = .ok (.if_icmp .ge 37, 3) := by decide +kernel
theorem dX6_goesTo_21 : decode cX6_goesTo 21 = .ok (.aload_n 0, 1) := by decide +kernel
theorem dX6_goesTo_22 : decode cX6_goesTo 22 = .ok (.iload_n 2, 1) := by decide +kernel
theorem dX6_goesTo_23 : decode cX6_goesTo 23 = .ok (.invokevirtual 29, 3) := by decide +kernel
theorem dX6_goesTo_26 : decode cX6_goesTo 26 = .ok (.ifCond .eq 29, 3) := by decide +kernel
theorem dX6_goesTo_29 : decode cX6_goesTo 29 = .ok (.aload_n 0, 1) := by decide +kernel
theorem dX6_goesTo_30 : decode cX6_goesTo 30 = .ok (.getfield 9, 3) := by decide +kernel
theorem dX6_goesTo_33 : decode cX6_goesTo 33 = .ok (.iload_n 2, 1) := by decide +kernel
theorem dX6_goesTo_34 : decode cX6_goesTo 34 = .ok (.iaload, 1) := by decide +kernel
theorem dX6_goesTo_35 : decode cX6_goesTo 35 = .ok (.aload_n 1, 1) := by decide +kernel
theorem dX6_goesTo_36 : decode cX6_goesTo 36 = .ok (.getfield 9, 3) := by decide +kernel
theorem dX6_goesTo_39 : decode cX6_goesTo 39 = .ok (.iload_n 2, 1) := by decide +kernel
theorem dX6_goesTo_40 : decode cX6_goesTo 40 = .ok (.iaload, 1) := by decide +kernel
theorem dX6_goesTo_41 : decode cX6_goesTo 41 = .ok (.invokestatic 40, 3) := by decide +kernel
theorem dX6_goesTo_44 : decode cX6_goesTo 44 = .ok (.ifCond .ne 5, 3) := by decide +kernel
theorem dX6_goesTo_47 : decode cX6_goesTo 47 = .ok (.iconst 0, 1) := by decide +kernel
theorem dX6_goesTo_48 : decode cX6_goesTo 48 = .ok (.ireturn, 1) := by decide +kernel
theorem dX6_goesTo_49 : decode cX6_goesTo 49 = .ok (.iinc 2 1, 3) := by decide +kernel
theorem dX6_goesTo_52 : decode cX6_goesTo 52 = .ok (.goto (-37), 3) := by decide +kernel
theorem dX6_goesTo_55 : decode cX6_goesTo 55 = .ok (.iconst 1, 1) := by decide +kernel
theorem dX6_goesTo_56 : decode cX6_goesTo 56 = .ok (.ireturn, 1) := by decide +kernel
theorem dX6_takeIn_0 : decode cX6_takeIn 0 = .ok (.iconst 0, 1) := by decide +kernel
theorem dX6_takeIn_1 : decode cX6_takeIn 1 = .ok (.istore_n 2, 1) := by decide +kernel
theorem dX6_takeIn_2 : decode cX6_takeIn 2 = .ok (.iconst 0, 1) := by decide +kernel
theorem dX6_takeIn_3 : decode cX6_takeIn 3 = .ok (.istore_n 3, 1) := by decide +kernel
theorem dX6_takeIn_4 : decode cX6_takeIn 4 = .ok (.iload_n 3, 1) := by decide +kernel
theorem dX6_takeIn_5 : decode cX6_takeIn 5 = .ok (.bipush 16, 2) := by decide +kernel
theorem dX6_takeIn_7 : decode cX6_takeIn 7 = .ok (.if_icmp .ge 63, 3) := by decide +kernel
theorem dX6_takeIn_10 : decode cX6_takeIn 10 = .ok (.aload_n 0, 1) := by decide +kernel
theorem dX6_takeIn_11 : decode cX6_takeIn 11 = .ok (.iload_n 3, 1) := by decide +kernel
theorem dX6_takeIn_12 : decode cX6_takeIn 12 = .ok (.invokevirtual 29, 3) := by decide +kernel
theorem dX6_takeIn_15 : decode cX6_takeIn 15 = .ok (.ifCond .eq 55, 3) := by decide +kernel
theorem dX6_takeIn_18 : decode cX6_takeIn 18 = .ok (.aload_n 0, 1) := by decide +kernel
theorem dX6_takeIn_19 : decode cX6_takeIn 19 = .ok (.getfield 9, 3) := by decide +kernel
theorem dX6_takeIn_22 : decode cX6_takeIn 22 = .ok (.iload_n 3, 1) := by decide +kernel
theorem dX6_takeIn_23 : decode cX6_takeIn 23 = .ok (.iaload, 1) := by decide +kernel
theorem dX6_takeIn_24 : decode cX6_takeIn 24 = .ok (.aload_n 1, 1) := by decide +kernel
theorem dX6_takeIn_25 : decode cX6_takeIn 25 = .ok (.getfield 9, 3) := by decide +kernel
theorem dX6_takeIn_28 : decode cX6_takeIn 28 = .ok (.iload_n 3, 1) := by decide +kernel
theorem dX6_takeIn_29 : decode cX6_takeIn 29 = .ok (.iaload, 1) := by decide +kernel
theorem dX6_takeIn_30 : decode cX6_takeIn 30 = .ok (.invokestatic 44, 3) := by decide +kernel
theorem dX6_takeIn_33 : decode cX6_takeIn 33 = .ok (.istore 4, 2) := by decide +kernel
theorem dX6_takeIn_35 : decode cX6_takeIn 35 = .ok (.iload_n 2, 1) := by decide +kernel
theorem dX6_takeIn_36 : decode cX6_takeIn 36 = .ok (.ifCond .ne 14, 3) := by decide +kernel
theorem dX6_takeIn_39 : decode cX6_takeIn 39 = .ok (.iload 4, 2) := by decide +kernel
theorem dX6_takeIn_41 : decode cX6_takeIn 41 = .ok (.aload_n 0, 1) := by decide +kernel
theorem dX6_takeIn_42 : decode cX6_takeIn 42 = .ok (.getfield 9, 3) := by decide +kernel
theorem dX6_takeIn_45 : decode cX6_takeIn 45 = .ok (.iload_n 3, 1) := by decide +kernel
theorem dX6_takeIn_46 : decode cX6_takeIn 46 = .ok (.iaload, 1) := by decide +kernel
theorem dX6_takeIn_47 : decode cX6_takeIn 47 = .ok (.if_icmp .eq 7, 3) := by decide +kernel
theorem dX6_takeIn_50 : decode cX6_takeIn 50 = .ok (.iconst 1, 1) := by decide +kernel
theorem dX6_takeIn_51 : decode cX6_takeIn 51 = .ok (.goto 4, 3) := by decide +kernel
theorem dX6_takeIn_54 : decode cX6_takeIn 54 = .ok (.iconst 0, 1) := by decide +kernel
theorem dX6_takeIn_55 : decode cX6_takeIn 55 = .ok (.istore_n 2, 1) := by decide +kernel
theorem dX6_takeIn_56 : decode cX6_takeIn 56 = .ok (.aload_n 0, 1) := by decide +kernel
theorem dX6_takeIn_57 : decode cX6_takeIn 57 = .ok (.getfield 9, 3) := by decide +kernel
theorem dX6_takeIn_60 : decode cX6_takeIn 60 = .ok (.iload_n 3, 1) := by decide +kernel
theorem dX6_takeIn_61 : decode cX6_takeIn 61 = .ok (.iload 4, 2) := by decide +kernel
theorem dX6_takeIn_63 : decode cX6_takeIn 63 = .ok (.iastore, 1) := by decide +kernel
theorem dX6_takeIn_64 : decode cX6_takeIn 64 = .ok (.iinc 3 1, 3) := by decide +kernel
theorem dX6_takeIn_67 : decode cX6_takeIn 67 = .ok (.goto (-63), 3) := by decide +kernel
theorem dX6_takeIn_70 : decode cX6_takeIn 70 = .ok (.iload_n 2, 1) := by decide +kernel
theorem dX6_takeIn_71 : decode cX6_takeIn 71 = .ok (.ireturn, 1) := by decide +kernel
theorem dX6_push_0 : decode cX6_push 0 = .ok (.aload_n 0, 1) := by decide +kernel
theorem dX6_push_1 : decode cX6_push 1 = .ok (.getfield 13, 3) := by decide +kernel
theorem dX6_push_4 : decode cX6_push 4 = .ok (.ifCond .lt 12, 3) := by decide +kernel
theorem dX6_push_7 : decode cX6_push 7 = .ok (.aload_n 0, 1) := by decide +kernel
theorem dX6_push_8 : decode cX6_push 8 = .ok (.getfield 13, 3) := by decide +kernel
theorem dX6_push_11 : decode cX6_push 11 = .ok (.bipush 8, 2) := by decide +kernel
theorem dX6_push_13 : decode cX6_push 13 = .ok (.if_icmp .lt 5, 3) := by decide +kernel
theorem dX6_push_16 : decode cX6_push 16 = .ok (.iconst 0, 1) := by decide +kernel
theorem dX6_push_17 : decode cX6_push 17 = .ok (.ireturn, 1) := by decide +kernel
theorem dX6_push_18 : decode cX6_push 18 = .ok (.aload_n 0, 1) := by decide +kernel
theorem dX6_push_19 : decode cX6_push 19 = .ok (.getfield 9, 3) := by decide +kernel
theorem dX6_push_22 : decode cX6_push 22 = .ok (.bipush 8, 2) := by decide +kernel
theorem dX6_push_24 : decode cX6_push 24 = .ok (.aload_n 0, 1) := by decide +kernel
theorem dX6_push_25 : decode cX6_push 25 = .ok (.getfield 13, 3) := by decide +kernel
theorem dX6_push_28 : decode cX6_push 28 = .ok (.iadd, 1) := by decide +kernel
theorem dX6_push_29 : decode cX6_push 29 = .ok (.iload_n 1, 1) := by decide +kernel
theorem dX6_push_30 : decode cX6_push 30 = .ok (.iastore, 1) := by decide +kernel
theorem dX6_push_31 : decode cX6_push 31 = .ok (.aload_n 0, 1) := by decide +kernel
theorem dX6_push_32 : decode cX6_push 32 = .ok (.dup, 1) := by decide +kernel
theorem dX6_push_33 : decode cX6_push 33 = .ok (.getfield 13, 3) := by decide +kernel
theorem dX6_push_36 : decode cX6_push 36 = .ok (.iconst 1, 1) := by decide +kernel
theorem dX6_push_37 : decode cX6_push 37 = .ok (.iadd, 1) := by decide +kernel
theorem dX6_push_38 : decode cX6_push 38 = .ok (.putfield 13, 3) := by decide +kernel
theorem dX6_push_41 : decode cX6_push 41 = .ok (.iconst 1, 1) := by decide +kernel
theorem dX6_push_42 : decode cX6_push 42 = .ok (.ireturn, 1) := by decide +kernel
theorem dX6_pushLong_0 : decode cX6_pushLong 0 = .ok (.aload_n 0, 1) := by decide +kernel
theorem dX6_pushLong_1 : decode cX6_pushLong 1 = .ok (.iconst 2, 1) := by decide +kernel
theorem dX6_pushLong_2 : decode cX6_pushLong 2 = .ok (.invokevirtual 37, 3) := by decide +kernel
theorem dX6_pushLong_5 : decode cX6_pushLong 5 = .ok (.ifCond .eq 15, 3) := by decide +kernel
theorem dX6_pushLong_8 : decode cX6_pushLong 8 = .ok (.aload_n 0, 1) := by decide +kernel
theorem dX6_pushLong_9 : decode cX6_pushLong 9 = .ok (.iconst 3, 1) := by decide +kernel
theorem dX6_pushLong_10 : decode cX6_pushLong 10 = .ok (.invokevirtual 37, 3) := by decide +kernel
theorem dX6_pushLong_13 : decode cX6_pushLong 13 = .ok (.ifCond .eq 7, 3) := by decide +kernel
theorem dX6_pushLong_16 : decode cX6_pushLong 16 = .ok (.iconst 1, 1) := by decide +kernel
theorem dX6_pushLong_17 : decode cX6_pushLong 17 = .ok (.goto 4, 3) := by decide +kernel
theorem dX6_pushLong_20 : decode cX6_pushLong 20 = .ok (.iconst 0, 1) := by decide +kernel
theorem dX6_pushLong_21 : decode cX6_pushLong 21 = .ok (.ireturn, 1) := by decide +kernel
theorem dX6_top_0 : decode cX6_top 0 = .ok (.aload_n 0, 1) := by decide +kernel
theorem dX6_top_1 : decode cX6_top 1 = .ok (.getfield 13, 3) := by decide +kernel
theorem dX6_top_4 : decode cX6_top 4 = .ok (.ifCond .le 29, 3) := by decide +kernel
theorem dX6_top_7 : decode cX6_top 7 = .ok (.aload_n 0, 1) := by decide +kernel
theorem dX6_top_8 : decode cX6_top 8 = .ok (.getfield 13, 3) := by decide +kernel
theorem dX6_top_11 : decode cX6_top 11 = .ok (.bipush 8, 2) := by decide +kernel
theorem dX6_top_13 : decode cX6_top 13 = .ok (.if_icmp .gt 20, 3) := by decide +kernel
theorem dX6_top_16 : decode cX6_top 16 = .ok (.aload_n 0, 1) := by decide +kernel
theorem dX6_top_17 : decode cX6_top 17 = .ok (.getfield 9, 3) := by decide +kernel
theorem dX6_top_20 : decode cX6_top 20 = .ok (.bipush 8, 2) := by decide +kernel
theorem dX6_top_22 : decode cX6_top 22 = .ok (.aload_n 0, 1) := by decide +kernel
theorem dX6_top_23 : decode cX6_top 23 = .ok (.getfield 13, 3) := by decide +kernel
theorem dX6_top_26 : decode cX6_top 26 = .ok (.iadd, 1) := by decide +kernel
theorem dX6_top_27 : decode cX6_top 27 = .ok (.iconst 1, 1) := by decide +kernel
theorem dX6_top_28 : decode cX6_top 28 = .ok (.isub, 1) := by decide +kernel
theorem dX6_top_29 : decode cX6_top 29 = .ok (.iaload, 1) := by decide +kernel
theorem dX6_top_30 : decode cX6_top 30 = .ok (.goto 4, 3) := by decide +kernel
theorem dX6_top_33 : decode cX6_top 33 = .ok (.iconst 0, 1) := by decide +kernel
theorem dX6_top_34 : decode cX6_top 34 = .ok (.ireturn, 1) := by decide +kernel
theorem dX6_pop_0 : decode cX6_pop 0 = .ok (.aload_n 0, 1) := by decide +kernel
theorem dX6_pop_1 : decode cX6_pop 1 = .ok (.invokevirtual 48, 3) := by decide +kernel
theorem dX6_pop_4 : decode cX6_pop 4 = .ok (.iload_n 1, 1) := by decide +kernel
theorem dX6_pop_5 : decode cX6_pop 5 = .ok (.invokestatic 40, 3) := by decide +kernel
theorem dX6_pop_8 : decode cX6_pop 8 = .ok (.ifCond .ne 5, 3) := by decide +kernel
theorem dX6_pop_11 : decode cX6_pop 11 = .ok (.iconst 0, 1) := by decide +kernel
theorem dX6_pop_12 : decode cX6_pop 12 = .ok (.ireturn, 1) := by decide +kernel
theorem dX6_pop_13 : decode cX6_pop 13 = .ok (.aload_n 0, 1) := by decide +kernel
theorem dX6_pop_14 : decode cX6_pop 14 = .ok (.dup, 1) := by decide +kernel
theorem dX6_pop_15 : decode cX6_pop 15 = .ok (.getfield 13, 3) := by decide +kernel
theorem dX6_pop_18 : decode cX6_pop 18 = .ok (.iconst 1, 1) := by decide +kernel
theorem dX6_pop_19 : decode cX6_pop 19 = .ok (.isub, 1) := by decide +kernel
theorem dX6_pop_20 : decode cX6_pop 20 = .ok (.putfield 13, 3) := by decide +kernel
theorem dX6_pop_23 : decode cX6_pop 23 = .ok (.iconst 1, 1) := by decide +kernel
theorem dX6_pop_24 : decode cX6_pop 24 = .ok (.ireturn, 1) := by decide +kernel
theorem dX6_popLong_0 : decode cX6_popLong 0 = .ok (.aload_n 0, 1) := by decide +kernel
theorem dX6_popLong_1 : decode cX6_popLong 1 = .ok (.getfield 13, 3) := by decide +kernel
theorem dX6_popLong_4 : decode cX6_popLong 4 = .ok (.iconst 2, 1) := by decide +kernel
theorem dX6_popLong_5 : decode cX6_popLong 5 = .ok (.if_icmp .lt 12, 3) := by decide +kernel
theorem dX6_popLong_8 : decode cX6_popLong 8 = .ok (.aload_n 0, 1) := by decide +kernel
theorem dX6_popLong_9 : decode cX6_popLong 9 = .ok (.getfield 13, 3) := by decide +kernel
theorem dX6_popLong_12 : decode cX6_popLong 12 = .ok (.bipush 8, 2) := by decide +kernel
theorem dX6_popLong_14 : decode cX6_popLong 14 = .ok (.if_icmp .le 5, 3) := by decide +kernel
theorem dX6_popLong_17 : decode cX6_popLong 17 = .ok (.iconst 0, 1) := by decide +kernel
theorem dX6_popLong_18 : decode cX6_popLong 18 = .ok (.ireturn, 1) := by decide +kernel
theorem dX6_popLong_19 : decode cX6_popLong 19 = .ok (.bipush 8, 2) := by decide +kernel
theorem dX6_popLong_21 : decode cX6_popLong 21 = .ok (.aload_n 0, 1) := by decide +kernel
theorem dX6_popLong_22 : decode cX6_popLong 22 = .ok (.getfield 13, 3) := by decide +kernel
theorem dX6_popLong_25 : decode cX6_popLong 25 = .ok (.iadd, 1) := by decide +kernel
theorem dX6_popLong_26 : decode cX6_popLong 26 = .ok (.iconst 2, 1) := by decide +kernel
theorem dX6_popLong_27 : decode cX6_popLong 27 = .ok (.isub, 1) := by decide +kernel
theorem dX6_popLong_28 : decode cX6_popLong 28 = .ok (.istore_n 1, 1) := by decide +kernel
theorem dX6_popLong_29 : decode cX6_popLong 29 = .ok (.aload_n 0, 1) := by decide +kernel
theorem dX6_popLong_30 : decode cX6_popLong 30 = .ok (.dup, 1) := by decide +kernel
theorem dX6_popLong_31 : decode cX6_popLong 31 = .ok (.getfield 13, 3) := by decide +kernel
theorem dX6_popLong_34 : decode cX6_popLong 34 = .ok (.iconst 2, 1) := by decide +kernel
theorem dX6_popLong_35 : decode cX6_popLong 35 = .ok (.isub, 1) := by decide +kernel
theorem dX6_popLong_36 : decode cX6_popLong 36 = .ok (.putfield 13, 3) := by decide +kernel
theorem dX6_popLong_39 : decode cX6_popLong 39 = .ok (.aload_n 0, 1) := by decide +kernel
theorem dX6_popLong_40 : decode cX6_popLong 40 = .ok (.getfield 9, 3) := by decide +kernel
theorem dX6_popLong_43 : decode cX6_popLong 43 = .ok (.iload_n 1, 1) := by decide +kernel
theorem dX6_popLong_44 : decode cX6_popLong 44 = .ok (.iaload, 1) := by decide +kernel
theorem dX6_popLong_45 : decode cX6_popLong 45 = .ok (.iconst 2, 1) := by decide +kernel
theorem dX6_popLong_46 : decode cX6_popLong 46 = .ok (.if_icmp .ne 19, 3) := by decide +kernel
theorem dX6_popLong_49 : decode cX6_popLong 49 = .ok (.aload_n 0, 1) := by decide +kernel
theorem dX6_popLong_50 : decode cX6_popLong 50 = .ok (.getfield 9, 3) := by decide +kernel
theorem dX6_popLong_53 : decode cX6_popLong 53 = .ok (.iload_n 1, 1) := by decide +kernel
theorem dX6_popLong_54 : decode cX6_popLong 54 = .ok (.iconst 1, 1) := by decide +kernel
theorem dX6_popLong_55 : decode cX6_popLong 55 = .ok (.iadd, 1) := by decide +kernel
theorem dX6_popLong_56 : decode cX6_popLong 56 = .ok (.iaload, 1) := by decide +kernel
theorem dX6_popLong_57 : decode cX6_popLong 57 = .ok (.iconst 3, 1) := by decide +kernel
theorem dX6_popLong_58 : decode cX6_popLong 58 = .ok (.if_icmp .ne 7, 3) := by decide +kernel
theorem dX6_popLong_61 : decode cX6_popLong 61 = .ok (.iconst 1, 1) := by decide +kernel
theorem dX6_popLong_62 : decode cX6_popLong 62 = .ok (.goto 4, 3) := by decide +kernel
theorem dX6_popLong_65 : decode cX6_popLong 65 = .ok (.iconst 0, 1) := by decide +kernel
theorem dX6_popLong_66 : decode cX6_popLong 66 = .ok (.ireturn, 1) := by decide +kernel
theorem dX6_popOne_0 : decode cX6_popOne 0 = .ok (.aload_n 0, 1) := by decide +kernel
theorem dX6_popOne_1 : decode cX6_popOne 1 = .ok (.invokevirtual 48, 3) := by decide +kernel
theorem dX6_popOne_4 : decode cX6_popOne 4 = .ok (.istore_n 1, 1) := by decide +kernel
theorem dX6_popOne_5 : decode cX6_popOne 5 = .ok (.iload_n 1, 1) := by decide +kernel
theorem dX6_popOne_6 : decode cX6_popOne 6 = .ok (.invokestatic 52, 3) := by decide +kernel
theorem dX6_popOne_9 : decode cX6_popOne 9 = .ok (.ifCond .ne 5, 3) := by decide +kernel
theorem dX6_popOne_12 : decode cX6_popOne 12 = .ok (.iconst 0, 1) := by decide +kernel
theorem dX6_popOne_13 : decode cX6_popOne 13 = .ok (.ireturn, 1) := by decide +kernel
theorem dX6_popOne_14 : decode cX6_popOne 14 = .ok (.aload_n 0, 1) := by decide +kernel
theorem dX6_popOne_15 : decode cX6_popOne 15 = .ok (.dup, 1) := by decide +kernel
theorem dX6_popOne_16 : decode cX6_popOne 16 = .ok (.getfield 13, 3) := by decide +kernel
theorem dX6_popOne_19 : decode cX6_popOne 19 = .ok (.iconst 1, 1) := by decide +kernel
theorem dX6_popOne_20 : decode cX6_popOne 20 = .ok (.isub, 1) := by decide +kernel
theorem dX6_popOne_21 : decode cX6_popOne 21 = .ok (.putfield 13, 3) := by decide +kernel
theorem dX6_popOne_24 : decode cX6_popOne 24 = .ok (.iload_n 1, 1) := by decide +kernel
theorem dX6_popOne_25 : decode cX6_popOne 25 = .ok (.ireturn, 1) := by decide +kernel
theorem dX6_popRow_0 : decode cX6_popRow 0 = .ok (.aload_n 0, 1) := by decide +kernel
theorem dX6_popRow_1 : decode cX6_popRow 1 = .ok (.invokevirtual 48, 3) := by decide +kernel
theorem dX6_popRow_4 : decode cX6_popRow 4 = .ok (.istore_n 1, 1) := by decide +kernel
theorem dX6_popRow_5 : decode cX6_popRow 5 = .ok (.iload_n 1, 1) := by decide +kernel
theorem dX6_popRow_6 : decode cX6_popRow 6 = .ok (.invokestatic 55, 3) := by decide +kernel
theorem dX6_popRow_9 : decode cX6_popRow 9 = .ok (.ifCond .ne 8, 3) := by decide +kernel
theorem dX6_popRow_12 : decode cX6_popRow 12 = .ok (.iload_n 1, 1) := by decide +kernel
theorem dX6_popRow_13 : decode cX6_popRow 13 = .ok (.iconst 4, 1) := by decide +kernel
theorem dX6_popRow_14 : decode cX6_popRow 14 = .ok (.if_icmp .ne 10, 3) := by decide +kernel
theorem dX6_popRow_17 : decode cX6_popRow 17 = .ok (.aload_n 0, 1) := by decide +kernel
theorem dX6_popRow_18 : decode cX6_popRow 18 = .ok (.invokevirtual 58, 3) := by decide +kernel
theorem dX6_popRow_21 : decode cX6_popRow 21 = .ok (.goto 4, 3) := by decide +kernel
theorem dX6_popRow_24 : decode cX6_popRow 24 = .ok (.iconst 0, 1) := by decide +kernel
theorem dX6_popRow_25 : decode cX6_popRow 25 = .ok (.ireturn, 1) := by decide +kernel
theorem dX6_write_0 : decode cX6_write 0 = .ok (.iload_n 1, 1) := by decide +kernel
theorem dX6_write_1 : decode cX6_write 1 = .ok (.ifCond .lt 9, 3) := by decide +kernel
theorem dX6_write_4 : decode cX6_write 4 = .ok (.iload_n 1, 1) := by decide +kernel
theorem dX6_write_5 : decode cX6_write 5 = .ok (.bipush 8, 2) := by decide +kernel
theorem dX6_write_7 : decode cX6_write 7 = .ok (.if_icmp .lt 4, 3) := by decide +kernel
theorem dX6_write_10 : decode cX6_write 10 = .ok (.return_, 1) := by decide +kernel
theorem dX6_write_11 : decode cX6_write 11 = .ok (.aload_n 0, 1) := by decide +kernel
theorem dX6_write_12 : decode cX6_write 12 = .ok (.getfield 9, 3) := by decide +kernel
theorem dX6_write_15 : decode cX6_write 15 = .ok (.iload_n 1, 1) := by decide +kernel
theorem dX6_write_16 : decode cX6_write 16 = .ok (.iaload, 1) := by decide +kernel
theorem dX6_write_17 : decode cX6_write 17 = .ok (.iconst 2, 1) := by decide +kernel
theorem dX6_write_18 : decode cX6_write 18 = .ok (.if_icmp .ne 7, 3) := by decide +kernel
theorem dX6_write_21 : decode cX6_write 21 = .ok (.iconst 1, 1) := by decide +kernel
theorem dX6_write_22 : decode cX6_write 22 = .ok (.goto 4, 3) := by decide +kernel
theorem dX6_write_25 : decode cX6_write 25 = .ok (.iconst 0, 1) := by decide +kernel
theorem dX6_write_26 : decode cX6_write 26 = .ok (.istore_n 3, 1) := by decide +kernel
theorem dX6_write_27 : decode cX6_write 27 = .ok (.aload_n 0, 1) := by decide +kernel
theorem dX6_write_28 : decode cX6_write 28 = .ok (.getfield 9, 3) := by decide +kernel
theorem dX6_write_31 : decode cX6_write 31 = .ok (.iload_n 1, 1) := by decide +kernel
theorem dX6_write_32 : decode cX6_write 32 = .ok (.iaload, 1) := by decide +kernel
theorem dX6_write_33 : decode cX6_write 33 = .ok (.iconst 3, 1) := by decide +kernel
theorem dX6_write_34 : decode cX6_write 34 = .ok (.if_icmp .ne 7, 3) := by decide +kernel
theorem dX6_write_37 : decode cX6_write 37 = .ok (.iconst 1, 1) := by decide +kernel
theorem dX6_write_38 : decode cX6_write 38 = .ok (.goto 4, 3) := by decide +kernel
theorem dX6_write_41 : decode cX6_write 41 = .ok (.iconst 0, 1) := by decide +kernel
theorem dX6_write_42 : decode cX6_write 42 = .ok (.istore 4, 2) := by decide +kernel
theorem dX6_write_44 : decode cX6_write 44 = .ok (.iload_n 1, 1) := by decide +kernel
theorem dX6_write_45 : decode cX6_write 45 = .ok (.ifCond .le 29, 3) := by decide +kernel
theorem dX6_write_48 : decode cX6_write 48 = .ok (.iload 4, 2) := by decide +kernel
theorem dX6_write_50 : decode cX6_write 50 = .ok (.ifCond .ne 15, 3) := by decide +kernel
theorem dX6_write_53 : decode cX6_write 53 = .ok (.aload_n 0, 1) := by decide +kernel
theorem dX6_write_54 : decode cX6_write 54 = .ok (.getfield 9, 3) := by decide +kernel
theorem dX6_write_57 : decode cX6_write 57 = .ok (.iload_n 1, 1) := by decide +kernel
theorem dX6_write_58 : decode cX6_write 58 = .ok (.iconst 1, 1) := by decide +kernel
theorem dX6_write_59 : decode cX6_write 59 = .ok (.isub, 1) := by decide +kernel
theorem dX6_write_60 : decode cX6_write 60 = .ok (.iaload, 1) := by decide +kernel
theorem dX6_write_61 : decode cX6_write 61 = .ok (.iconst 2, 1) := by decide +kernel
theorem dX6_write_62 : decode cX6_write 62 = .ok (.if_icmp .ne 12, 3) := by decide +kernel
theorem dX6_write_65 : decode cX6_write 65 = .ok (.aload_n 0, 1) := by decide +kernel
theorem dX6_write_66 : decode cX6_write 66 = .ok (.getfield 9, 3) := by decide +kernel
theorem dX6_write_69 : decode cX6_write 69 = .ok (.iload_n 1, 1) := by decide +kernel
theorem dX6_write_70 : decode cX6_write 70 = .ok (.iconst 1, 1) := by decide +kernel
theorem dX6_write_71 : decode cX6_write 71 = .ok (.isub, 1) := by decide +kernel
theorem dX6_write_72 : decode cX6_write 72 = .ok (.iconst 0, 1) := by decide +kernel
theorem dX6_write_73 : decode cX6_write 73 = .ok (.iastore, 1) := by decide +kernel
theorem dX6_write_74 : decode cX6_write 74 = .ok (.iload_n 1, 1) := by decide +kernel
theorem dX6_write_75 : decode cX6_write 75 = .ok (.iconst 1, 1) := by decide +kernel
theorem dX6_write_76 : decode cX6_write 76 = .ok (.iadd, 1) := by decide +kernel
theorem dX6_write_77 : decode cX6_write 77 = .ok (.bipush 8, 2) := by decide +kernel
theorem dX6_write_79 : decode cX6_write 79 = .ok (.if_icmp .ge 28, 3) := by decide +kernel
theorem dX6_write_82 : decode cX6_write 82 = .ok (.iload_n 3, 1) := by decide +kernel
theorem dX6_write_83 : decode cX6_write 83 = .ok (.ifCond .ne 15, 3) := by decide +kernel
theorem dX6_write_86 : decode cX6_write 86 = .ok (.aload_n 0, 1) := by decide +kernel
theorem dX6_write_87 : decode cX6_write 87 = .ok (.getfield 9, 3) := by decide +kernel
theorem dX6_write_90 : decode cX6_write 90 = .ok (.iload_n 1, 1) := by decide +kernel
theorem dX6_write_91 : decode cX6_write 91 = .ok (.iconst 1, 1) := by decide +kernel
theorem dX6_write_92 : decode cX6_write 92 = .ok (.iadd, 1) := by decide +kernel
theorem dX6_write_93 : decode cX6_write 93 = .ok (.iaload, 1) := by decide +kernel
theorem dX6_write_94 : decode cX6_write 94 = .ok (.iconst 3, 1) := by decide +kernel
theorem dX6_write_95 : decode cX6_write 95 = .ok (.if_icmp .ne 12, 3) := by decide +kernel
theorem dX6_write_98 : decode cX6_write 98 = .ok (.aload_n 0, 1) := by decide +kernel
theorem dX6_write_99 : decode cX6_write 99 = .ok (.getfield 9, 3) := by decide +kernel
theorem dX6_write_102 : decode cX6_write 102 = .ok (.iload_n 1, 1) := by decide +kernel
theorem dX6_write_103 : decode cX6_write 103 = .ok (.iconst 1, 1) := by decide +kernel
theorem dX6_write_104 : decode cX6_write 104 = .ok (.iadd, 1) := by decide +kernel
theorem dX6_write_105 : decode cX6_write 105 = .ok (.iconst 0, 1) := by decide +kernel
theorem dX6_write_106 : decode cX6_write 106 = .ok (.iastore, 1) := by decide +kernel
theorem dX6_write_107 : decode cX6_write 107 = .ok (.aload_n 0, 1) := by decide +kernel
theorem dX6_write_108 : decode cX6_write 108 = .ok (.getfield 9, 3) := by decide +kernel
theorem dX6_write_111 : decode cX6_write 111 = .ok (.iload_n 1, 1) := by decide +kernel
theorem dX6_write_112 : decode cX6_write 112 = .ok (.iload_n 2, 1) := by decide +kernel
theorem dX6_write_113 : decode cX6_write 113 = .ok (.iastore, 1) := by decide +kernel
theorem dX6_write_114 : decode cX6_write 114 = .ok (.return_, 1) := by decide +kernel
theorem dX6_writeLong_0 : decode cX6_writeLong 0 = .ok (.aload_n 0, 1) := by decide +kernel
theorem dX6_writeLong_1 : decode cX6_writeLong 1 = .ok (.iload_n 1, 1) := by decide +kernel
theorem dX6_writeLong_2 : decode cX6_writeLong 2 = .ok (.iconst 0, 1) := by decide +kernel
theorem dX6_writeLong_3 : decode cX6_writeLong 3 = .ok (.invokevirtual 61, 3) := by decide +kernel
theorem dX6_writeLong_6 : decode cX6_writeLong 6 = .ok (.aload_n 0, 1) := by decide +kernel
theorem dX6_writeLong_7 : decode cX6_writeLong 7 = .ok (.iload_n 1, 1) := by decide +kernel
theorem dX6_writeLong_8 : decode cX6_writeLong 8 = .ok (.iconst 1, 1) := by decide +kernel
theorem dX6_writeLong_9 : decode cX6_writeLong 9 = .ok (.iadd, 1) := by decide +kernel
theorem dX6_writeLong_10 : decode cX6_writeLong 10 = .ok (.iconst 3, 1) := by decide +kernel
