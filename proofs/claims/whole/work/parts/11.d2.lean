theorem dX10_push_0 : decode cX10_push 0 = .ok (.aload_n 0, 1) := by decide +kernel
theorem dX10_push_1 : decode cX10_push 1 = .ok (.getfield 145, 3) := by decide +kernel
theorem dX10_push_4 : decode cX10_push 4 = .ok (.bipush 8, 2) := by decide +kernel
theorem dX10_push_6 : decode cX10_push 6 = .ok (.if_icmp .ne 5, 3) := by decide +kernel
theorem dX10_push_9 : decode cX10_push 9 = .ok (.iconst 0, 1) := by decide +kernel
theorem dX10_push_10 : decode cX10_push 10 = .ok (.ireturn, 1) := by decide +kernel
theorem dX10_push_11 : decode cX10_push 11 = .ok (.aload_n 0, 1) := by decide +kernel
theorem dX10_push_12 : decode cX10_push 12 = .ok (.getfield 45, 3) := by decide +kernel
theorem dX10_push_15 : decode cX10_push 15 = .ok (.bipush 8, 2) := by decide +kernel
theorem dX10_push_17 : decode cX10_push 17 = .ok (.aload_n 0, 1) := by decide +kernel
theorem dX10_push_18 : decode cX10_push 18 = .ok (.getfield 145, 3) := by decide +kernel
theorem dX10_push_21 : decode cX10_push 21 = .ok (.iadd, 1) := by decide +kernel
theorem dX10_push_22 : decode cX10_push 22 = .ok (.iload_n 1, 1) := by decide +kernel
theorem dX10_push_23 : decode cX10_push 23 = .ok (.iastore, 1) := by decide +kernel
theorem dX10_push_24 : decode cX10_push 24 = .ok (.aload_n 0, 1) := by decide +kernel
theorem dX10_push_25 : decode cX10_push 25 = .ok (.dup, 1) := by decide +kernel
theorem dX10_push_26 : decode cX10_push 26 = .ok (.getfield 145, 3) := by decide +kernel
theorem dX10_push_29 : decode cX10_push 29 = .ok (.iconst 1, 1) := by decide +kernel
theorem dX10_push_30 : decode cX10_push 30 = .ok (.iadd, 1) := by decide +kernel
theorem dX10_push_31 : decode cX10_push 31 = .ok (.putfield 145, 3) := by decide +kernel
theorem dX10_push_34 : decode cX10_push 34 = .ok (.iconst 1, 1) := by decide +kernel
theorem dX10_push_35 : decode cX10_push 35 = .ok (.ireturn, 1) := by decide +kernel
theorem dX10_pop_0 : decode cX10_pop 0 = .ok (.aload_n 0, 1) := by decide +kernel
theorem dX10_pop_1 : decode cX10_pop 1 = .ok (.getfield 145, 3) := by decide +kernel
theorem dX10_pop_4 : decode cX10_pop 4 = .ok (.ifCond .eq 22, 3) := by decide +kernel
theorem dX10_pop_7 : decode cX10_pop 7 = .ok (.aload_n 0, 1) := by decide +kernel
theorem dX10_pop_8 : decode cX10_pop 8 = .ok (.getfield 45, 3) := by decide +kernel
theorem dX10_pop_11 : decode cX10_pop 11 = .ok (.bipush 7, 2) := by decide +kernel
theorem dX10_pop_13 : decode cX10_pop 13 = .ok (.aload_n 0, 1) := by decide +kernel
theorem dX10_pop_14 : decode cX10_pop 14 = .ok (.getfield 145, 3) := by decide +kernel
theorem dX10_pop_17 : decode cX10_pop 17 = .ok (.iadd, 1) := by decide +kernel
theorem dX10_pop_18 : decode cX10_pop 18 = .ok (.iaload, 1) := by decide +kernel
theorem dX10_pop_19 : decode cX10_pop 19 = .ok (.iload_n 1, 1) := by decide +kernel
theorem dX10_pop_20 : decode cX10_pop 20 = .ok (.invokestatic 125, 3) := by decide +kernel
theorem dX10_pop_23 : decode cX10_pop 23 = .ok (.ifCond .ne 5, 3) := by decide +kernel
theorem dX10_pop_26 : decode cX10_pop 26 = .ok (.iconst 0, 1) := by decide +kernel
theorem dX10_pop_27 : decode cX10_pop 27 = .ok (.ireturn, 1) := by decide +kernel
theorem dX10_pop_28 : decode cX10_pop 28 = .ok (.aload_n 0, 1) := by decide +kernel
theorem dX10_pop_29 : decode cX10_pop 29 = .ok (.dup, 1) := by decide +kernel
theorem dX10_pop_30 : decode cX10_pop 30 = .ok (.getfield 145, 3) := by decide +kernel
theorem dX10_pop_33 : decode cX10_pop 33 = .ok (.iconst 1, 1) := by decide +kernel
theorem dX10_pop_34 : decode cX10_pop 34 = .ok (.isub, 1) := by decide +kernel
theorem dX10_pop_35 : decode cX10_pop 35 = .ok (.putfield 145, 3) := by decide +kernel
theorem dX10_pop_38 : decode cX10_pop 38 = .ok (.iconst 1, 1) := by decide +kernel
theorem dX10_pop_39 : decode cX10_pop 39 = .ok (.ireturn, 1) := by decide +kernel
theorem dX10_pushLong_0 : decode cX10_pushLong 0 = .ok (.aload_n 0, 1) := by decide +kernel
theorem dX10_pushLong_1 : decode cX10_pushLong 1 = .ok (.iconst 2, 1) := by decide +kernel
theorem dX10_pushLong_2 : decode cX10_pushLong 2 = .ok (.invokevirtual 148, 3) := by decide +kernel
theorem dX10_pushLong_5 : decode cX10_pushLong 5 = .ok (.ifCond .eq 15, 3) := by decide +kernel
theorem dX10_pushLong_8 : decode cX10_pushLong 8 = .ok (.aload_n 0, 1) := by decide +kernel
theorem dX10_pushLong_9 : decode cX10_pushLong 9 = .ok (.iconst 3, 1) := by decide +kernel
theorem dX10_pushLong_10 : decode cX10_pushLong 10 = .ok (.invokevirtual 148, 3) := by decide +kernel
theorem dX10_pushLong_13 : decode cX10_pushLong 13 = .ok (.ifCond .eq 7, 3) := by decide +kernel
theorem dX10_pushLong_16 : decode cX10_pushLong 16 = .ok (.iconst 1, 1) := by decide +kernel
theorem dX10_pushLong_17 : decode cX10_pushLong 17 = .ok (.goto 4, 3) := by decide +kernel
theorem dX10_pushLong_20 : decode cX10_pushLong 20 = .ok (.iconst 0, 1) := by decide +kernel
theorem dX10_pushLong_21 : decode cX10_pushLong 21 = .ok (.ireturn, 1) := by decide +kernel
theorem dX10_popLong_0 : decode cX10_popLong 0 = .ok (.aload_n 0, 1) := by decide +kernel
theorem dX10_popLong_1 : decode cX10_popLong 1 = .ok (.getfield 145, 3) := by decide +kernel
theorem dX10_popLong_4 : decode cX10_popLong 4 = .ok (.iconst 2, 1) := by decide +kernel
theorem dX10_popLong_5 : decode cX10_popLong 5 = .ok (.if_icmp .lt 35, 3) := by decide +kernel
theorem dX10_popLong_8 : decode cX10_popLong 8 = .ok (.aload_n 0, 1) := by decide +kernel
theorem dX10_popLong_9 : decode cX10_popLong 9 = .ok (.getfield 45, 3) := by decide +kernel
theorem dX10_popLong_12 : decode cX10_popLong 12 = .ok (.bipush 7, 2) := by decide +kernel
theorem dX10_popLong_14 : decode cX10_popLong 14 = .ok (.aload_n 0, 1) := by decide +kernel
theorem dX10_popLong_15 : decode cX10_popLong 15 = .ok (.getfield 145, 3) := by decide +kernel
theorem dX10_popLong_18 : decode cX10_popLong 18 = .ok (.iadd, 1) := by decide +kernel
theorem dX10_popLong_19 : decode cX10_popLong 19 = .ok (.iaload, 1) := by decide +kernel
theorem dX10_popLong_20 : decode cX10_popLong 20 = .ok (.iconst 3, 1) := by decide +kernel
theorem dX10_popLong_21 : decode cX10_popLong 21 = .ok (.if_icmp .ne 19, 3) := by decide +kernel
theorem dX10_popLong_24 : decode cX10_popLong 24 = .ok (.aload_n 0, 1) := by decide +kernel
theorem dX10_popLong_25 : decode cX10_popLong 25 = .ok (.getfield 45, 3) := by decide +kernel
theorem dX10_popLong_28 : decode cX10_popLong 28 = .ok (.bipush 6, 2) := by decide +kernel
theorem dX10_popLong_30 : decode cX10_popLong 30 = .ok (.aload_n 0, 1) := by decide +kernel
theorem dX10_popLong_31 : decode cX10_popLong 31 = .ok (.getfield 145, 3) := by decide +kernel
theorem dX10_popLong_34 : decode cX10_popLong 34 = .ok (.iadd, 1) := by decide +kernel
theorem dX10_popLong_35 : decode cX10_popLong 35 = .ok (.iaload, 1) := by decide +kernel
theorem dX10_popLong_36 : decode cX10_popLong 36 = .ok (.iconst 2, 1) := by decide +kernel
theorem dX10_popLong_37 : decode cX10_popLong 37 = .ok (.if_icmp .eq 5, 3) := by decide +kernel
theorem dX10_popLong_40 : decode cX10_popLong 40 = .ok (.iconst 0, 1) := by decide +kernel
theorem dX10_popLong_41 : decode cX10_popLong 41 = .ok (.ireturn, 1) := by decide +kernel
theorem dX10_popLong_42 : decode cX10_popLong 42 = .ok (.aload_n 0, 1) := by decide +kernel
theorem dX10_popLong_43 : decode cX10_popLong 43 = .ok (.dup, 1) := by decide +kernel
theorem dX10_popLong_44 : decode cX10_popLong 44 = .ok (.getfield 145, 3) := by decide +kernel
theorem dX10_popLong_47 : decode cX10_popLong 47 = .ok (.iconst 2, 1) := by decide +kernel
theorem dX10_popLong_48 : decode cX10_popLong 48 = .ok (.isub, 1) := by decide +kernel
theorem dX10_popLong_49 : decode cX10_popLong 49 = .ok (.putfield 145, 3) := by decide +kernel
theorem dX10_popLong_52 : decode cX10_popLong 52 = .ok (.iconst 1, 1) := by decide +kernel
theorem dX10_popLong_53 : decode cX10_popLong 53 = .ok (.ireturn, 1) := by decide +kernel
theorem dX10_isOneOnTop_0 : decode cX10_isOneOnTop 0 = .ok (.aload_n 0, 1) := by decide +kernel
theorem dX10_isOneOnTop_1 : decode cX10_isOneOnTop 1 = .ok (.getfield 145, 3) := by decide +kernel
theorem dX10_isOneOnTop_4 : decode cX10_isOneOnTop 4 = .ok (.iload_n 1, 1) := by decide +kernel
theorem dX10_isOneOnTop_5 : decode cX10_isOneOnTop 5 = .ok (.if_icmp .le 27, 3) := by decide +kernel
theorem dX10_isOneOnTop_8 : decode cX10_isOneOnTop 8 = .ok (.aload_n 0, 1) := by decide +kernel
theorem dX10_isOneOnTop_9 : decode cX10_isOneOnTop 9 = .ok (.getfield 45, 3) := by decide +kernel
theorem dX10_isOneOnTop_12 : decode cX10_isOneOnTop 12 = .ok (.bipush 7, 2) := by decide +kernel
theorem dX10_isOneOnTop_14 : decode cX10_isOneOnTop 14 = .ok (.aload_n 0, 1) := by decide +kernel
theorem dX10_isOneOnTop_15 : decode cX10_isOneOnTop 15 = .ok (.getfield 145, 3) := by decide +kernel
theorem dX10_isOneOnTop_18 : decode cX10_isOneOnTop 18 = .ok (.iadd, 1) := by decide +kernel
theorem dX10_isOneOnTop_19 : decode cX10_isOneOnTop 19 = .ok (.iload_n 1, 1) := by decide +kernel
theorem dX10_isOneOnTop_20 : decode cX10_isOneOnTop 20 = .ok (.isub, 1) := by decide +kernel
theorem dX10_isOneOnTop_21 : decode cX10_isOneOnTop 21 = .ok (.iaload, 1) := by decide +kernel
theorem dX10_isOneOnTop_22 : decode cX10_isOneOnTop 22 = .ok (.invokestatic 151, 3) := by decide +kernel
theorem dX10_isOneOnTop_25 : decode cX10_isOneOnTop 25 = .ok (.ifCond .eq 7, 3) := by decide +kernel
theorem dX10_isOneOnTop_28 : decode cX10_isOneOnTop 28 = .ok (.iconst 1, 1) := by decide +kernel
theorem dX10_isOneOnTop_29 : decode cX10_isOneOnTop 29 = .ok (.goto 4, 3) := by decide +kernel
theorem dX10_isOneOnTop_32 : decode cX10_isOneOnTop 32 = .ok (.iconst 0, 1) := by decide +kernel
theorem dX10_isOneOnTop_33 : decode cX10_isOneOnTop 33 = .ok (.ireturn, 1) := by decide +kernel
theorem dX10_local_0 : decode cX10_local 0 = .ok (.aload_n 0, 1) := by decide +kernel
theorem dX10_local_1 : decode cX10_local 1 = .ok (.getfield 45, 3) := by decide +kernel
theorem dX10_local_4 : decode cX10_local 4 = .ok (.iload_n 1, 1) := by decide +kernel
theorem dX10_local_5 : decode cX10_local 5 = .ok (.iaload, 1) := by decide +kernel
theorem dX10_local_6 : decode cX10_local 6 = .ok (.iconst 3, 1) := by decide +kernel
theorem dX10_local_7 : decode cX10_local 7 = .ok (.if_icmp .ne 28, 3) := by decide +kernel
theorem dX10_local_10 : decode cX10_local 10 = .ok (.iload_n 1, 1) := by decide +kernel
theorem dX10_local_11 : decode cX10_local 11 = .ok (.ifCond .le 24, 3) := by decide +kernel
theorem dX10_local_14 : decode cX10_local 14 = .ok (.aload_n 0, 1) := by decide +kernel
theorem dX10_local_15 : decode cX10_local 15 = .ok (.getfield 45, 3) := by decide +kernel
theorem dX10_local_18 : decode cX10_local 18 = .ok (.iload_n 1, 1) := by decide +kernel
theorem dX10_local_19 : decode cX10_local 19 = .ok (.iconst 1, 1) := by decide +kernel
theorem dX10_local_20 : decode cX10_local 20 = .ok (.isub, 1) := by decide +kernel
theorem dX10_local_21 : decode cX10_local 21 = .ok (.iaload, 1) := by decide +kernel
theorem dX10_local_22 : decode cX10_local 22 = .ok (.iconst 2, 1) := by decide +kernel
theorem dX10_local_23 : decode cX10_local 23 = .ok (.if_icmp .ne 12, 3) := by decide +kernel
theorem dX10_local_26 : decode cX10_local 26 = .ok (.aload_n 0, 1) := by decide +kernel
theorem dX10_local_27 : decode cX10_local 27 = .ok (.getfield 45, 3) := by decide +kernel
theorem dX10_local_30 : decode cX10_local 30 = .ok (.iload_n 1, 1) := by decide +kernel
theorem dX10_local_31 : decode cX10_local 31 = .ok (.iconst 1, 1) := by decide +kernel
theorem dX10_local_32 : decode cX10_local 32 = .ok (.isub, 1) := by decide +kernel
theorem dX10_local_33 : decode cX10_local 33 = .ok (.iconst 0, 1) := by decide +kernel
theorem dX10_local_34 : decode cX10_local 34 = .ok (.iastore, 1) := by decide +kernel
theorem dX10_local_35 : decode cX10_local 35 = .ok (.aload_n 0, 1) := by decide +kernel
theorem dX10_local_36 : decode cX10_local 36 = .ok (.getfield 45, 3) := by decide +kernel
theorem dX10_local_39 : decode cX10_local 39 = .ok (.iload_n 1, 1) := by decide +kernel
theorem dX10_local_40 : decode cX10_local 40 = .ok (.iaload, 1) := by decide +kernel
theorem dX10_local_41 : decode cX10_local 41 = .ok (.iconst 2, 1) := by decide +kernel
theorem dX10_local_42 : decode cX10_local 42 = .ok (.if_icmp .ne 30, 3) := by decide +kernel
theorem dX10_local_45 : decode cX10_local 45 = .ok (.iload_n 1, 1) := by decide +kernel
theorem dX10_local_46 : decode cX10_local 46 = .ok (.bipush 7, 2) := by decide +kernel
theorem dX10_local_48 : decode cX10_local 48 = .ok (.if_icmp .ge 24, 3) := by decide +kernel
theorem dX10_local_51 : decode cX10_local 51 = .ok (.aload_n 0, 1) := by decide +kernel
theorem dX10_local_52 : decode cX10_local 52 = .ok (.getfield 45, 3) := by decide +kernel
theorem dX10_local_55 : decode cX10_local 55 = .ok (.iload_n 1, 1) := by decide +kernel
theorem dX10_local_56 : decode cX10_local 56 = .ok (.iconst 1, 1) := by decide +kernel
theorem dX10_local_57 : decode cX10_local 57 = .ok (.iadd, 1) := by decide +kernel
theorem dX10_local_58 : decode cX10_local 58 = .ok (.iaload, 1) := by decide +kernel
theorem dX10_local_59 : decode cX10_local 59 = .ok (.iconst 3, 1) := by decide +kernel
theorem dX10_local_60 : decode cX10_local 60 = .ok (.if_icmp .ne 12, 3) := by decide +kernel
theorem dX10_local_63 : decode cX10_local 63 = .ok (.aload_n 0, 1) := by decide +kernel
theorem dX10_local_64 : decode cX10_local 64 = .ok (.getfield 45, 3) := by decide +kernel
theorem dX10_local_67 : decode cX10_local 67 = .ok (.iload_n 1, 1) := by decide +kernel
theorem dX10_local_68 : decode cX10_local 68 = .ok (.iconst 1, 1) := by decide +kernel
theorem dX10_local_69 : decode cX10_local 69 = .ok (.iadd, 1) := by decide +kernel
theorem dX10_local_70 : decode cX10_local 70 = .ok (.iconst 0, 1) := by decide +kernel
theorem dX10_local_71 : decode cX10_local 71 = .ok (.iastore, 1) := by decide +kernel
theorem dX10_local_72 : decode cX10_local 72 = .ok (.aload_n 0, 1) := by decide +kernel
theorem dX10_local_73 : decode cX10_local 73 = .ok (.getfield 45, 3) := by decide +kernel
theorem dX10_local_76 : decode cX10_local 76 = .ok (.iload_n 1, 1) := by decide +kernel
theorem dX10_local_77 : decode cX10_local 77 = .ok (.iload_n 2, 1) := by decide +kernel
theorem dX10_local_78 : decode cX10_local 78 = .ok (.iastore, 1) := by decide +kernel
theorem dX10_local_79 : decode cX10_local 79 = .ok (.return_, 1) := by decide +kernel
