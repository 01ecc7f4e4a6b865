theorem dX6_writeLong_11 : decode cX6_writeLong 11 = .ok (.invokevirtual 61, 3) := by decide +kernel
theorem dX6_writeLong_14 : decode cX6_writeLong 14 = .ok (.iload_n 1, 1) := by decide +kernel
theorem dX6_writeLong_15 : decode cX6_writeLong 15 = .ok (.ifCond .lt 16, 3) := by decide +kernel
theorem dX6_writeLong_18 : decode cX6_writeLong 18 = .ok (.iload_n 1, 1) := by decide +kernel
theorem dX6_writeLong_19 : decode cX6_writeLong 19 = .ok (.bipush 8, 2) := by decide +kernel
theorem dX6_writeLong_21 : decode cX6_writeLong 21 = .ok (.if_icmp .ge 10, 3) := by decide +kernel
theorem dX6_writeLong_24 : decode cX6_writeLong 24 = .ok (.aload_n 0, 1) := by decide +kernel
theorem dX6_writeLong_25 : decode cX6_writeLong 25 = .ok (.getfield 9, 3) := by decide +kernel
theorem dX6_writeLong_28 : decode cX6_writeLong 28 = .ok (.iload_n 1, 1) := by decide +kernel
theorem dX6_writeLong_29 : decode cX6_writeLong 29 = .ok (.iconst 2, 1) := by decide +kernel
theorem dX6_writeLong_30 : decode cX6_writeLong 30 = .ok (.iastore, 1) := by decide +kernel
theorem dX6_writeLong_31 : decode cX6_writeLong 31 = .ok (.return_, 1) := by decide +kernel
theorem dX6_stackHolds_0 : decode cX6_stackHolds 0 = .ok (.bipush 8, 2) := by decide +kernel
theorem dX6_stackHolds_2 : decode cX6_stackHolds 2 = .ok (.istore_n 2, 1) := by decide +kernel
theorem dX6_stackHolds_3 : decode cX6_stackHolds 3 = .ok (.iload_n 2, 1) := by decide +kernel
theorem dX6_stackHolds_4 : decode cX6_stackHolds 4 = .ok (.bipush 16, 2) := by decide +kernel
theorem dX6_stackHolds_6 : decode cX6_stackHolds 6 = .ok (.if_icmp .ge 29, 3) := by decide +kernel
theorem dX6_stackHolds_9 : decode cX6_stackHolds 9 = .ok (.aload_n 0, 1) := by decide +kernel
theorem dX6_stackHolds_10 : decode cX6_stackHolds 10 = .ok (.iload_n 2, 1) := by decide +kernel
theorem dX6_stackHolds_11 : decode cX6_stackHolds 11 = .ok (.invokevirtual 29, 3) := by decide +kernel
theorem dX6_stackHolds_14 : decode cX6_stackHolds 14 = .ok (.ifCond .eq 21, 3) := by decide +kernel
theorem dX6_stackHolds_17 : decode cX6_stackHolds 17 = .ok (.aload_n 0, 1) := by decide +kernel
theorem dX6_stackHolds_18 : decode cX6_stackHolds 18 = .ok (.getfield 9, 3) := by decide +kernel
theorem dX6_stackHolds_21 : decode cX6_stackHolds 21 = .ok (.iload_n 2, 1) := by decide +kernel
theorem dX6_stackHolds_22 : decode cX6_stackHolds 22 = .ok (.iaload, 1) := by decide +kernel
theorem dX6_stackHolds_23 : decode cX6_stackHolds 23 = .ok (.iload_n 1, 1) := by decide +kernel
theorem dX6_stackHolds_24 : decode cX6_stackHolds 24 = .ok (.if_icmp .ne 5, 3) := by decide +kernel
theorem dX6_stackHolds_27 : decode cX6_stackHolds 27 = .ok (.iconst 1, 1) := by decide +kernel
theorem dX6_stackHolds_28 : decode cX6_stackHolds 28 = .ok (.ireturn, 1) := by decide +kernel
theorem dX6_stackHolds_29 : decode cX6_stackHolds 29 = .ok (.iinc 2 1, 3) := by decide +kernel
theorem dX6_stackHolds_32 : decode cX6_stackHolds 32 = .ok (.goto (-29), 3) := by decide +kernel
theorem dX6_stackHolds_35 : decode cX6_stackHolds 35 = .ok (.iconst 0, 1) := by decide +kernel
theorem dX6_stackHolds_36 : decode cX6_stackHolds 36 = .ok (.ireturn, 1) := by decide +kernel
theorem dX6_replace_0 : decode cX6_replace 0 = .ok (.iconst 0, 1) := by decide +kernel
theorem dX6_replace_1 : decode cX6_replace 1 = .ok (.istore_n 3, 1) := by decide +kernel
theorem dX6_replace_2 : decode cX6_replace 2 = .ok (.iload_n 3, 1) := by decide +kernel
theorem dX6_replace_3 : decode cX6_replace 3 = .ok (.bipush 16, 2) := by decide +kernel
theorem dX6_replace_5 : decode cX6_replace 5 = .ok (.if_icmp .ge 34, 3) := by decide +kernel
theorem dX6_replace_8 : decode cX6_replace 8 = .ok (.aload_n 0, 1) := by decide +kernel
theorem dX6_replace_9 : decode cX6_replace 9 = .ok (.iload_n 3, 1) := by decide +kernel
theorem dX6_replace_10 : decode cX6_replace 10 = .ok (.invokevirtual 29, 3) := by decide +kernel
theorem dX6_replace_13 : decode cX6_replace 13 = .ok (.ifCond .eq 26, 3) := by decide +kernel
theorem dX6_replace_16 : decode cX6_replace 16 = .ok (.aload_n 0, 1) := by decide +kernel
theorem dX6_replace_17 : decode cX6_replace 17 = .ok (.getfield 9, 3) := by decide +kernel
theorem dX6_replace_20 : decode cX6_replace 20 = .ok (.iload_n 3, 1) := by decide +kernel
theorem dX6_replace_21 : decode cX6_replace 21 = .ok (.iaload, 1) := by decide +kernel
theorem dX6_replace_22 : decode cX6_replace 22 = .ok (.iload_n 1, 1) := by decide +kernel
theorem dX6_replace_23 : decode cX6_replace 23 = .ok (.if_icmp .ne 10, 3) := by decide +kernel
theorem dX6_replace_26 : decode cX6_replace 26 = .ok (.aload_n 0, 1) := by decide +kernel
theorem dX6_replace_27 : decode cX6_replace 27 = .ok (.getfield 9, 3) := by decide +kernel
theorem dX6_replace_30 : decode cX6_replace 30 = .ok (.iload_n 3, 1) := by decide +kernel
theorem dX6_replace_31 : decode cX6_replace 31 = .ok (.iload_n 2, 1) := by decide +kernel
theorem dX6_replace_32 : decode cX6_replace 32 = .ok (.iastore, 1) := by decide +kernel
theorem dX6_replace_33 : decode cX6_replace 33 = .ok (.iinc 3 1, 3) := by decide +kernel
theorem dX6_replace_36 : decode cX6_replace 36 = .ok (.goto (-34), 3) := by decide +kernel
theorem dX6_replace_39 : decode cX6_replace 39 = .ok (.return_, 1) := by decide +kernel
