theorem dX1_init_0 : decode cX1_init 0 = .ok (.aload_n 0, 1) := by decide +kernel
theorem dX1_init_1 : decode cX1_init 1 = .ok (.invokespecial 1, 3) := by decide +kernel
theorem dX1_init_4 : decode cX1_init 4 = .ok (.aload_n 0, 1) := by decide +kernel
theorem dX1_init_5 : decode cX1_init 5 = .ok (.bipush 21, 2) := by decide +kernel
theorem dX1_init_7 : decode cX1_init 7 = .ok (.newarray .int, 2) := by decide +kernel
theorem dX1_init_9 : decode cX1_init 9 = .ok (.putfield 9, 3) := by decide +kernel
theorem dX1_init_12 : decode cX1_init 12 = .ok (.aload_n 0, 1) := by decide +kernel
theorem dX1_init_13 : decode cX1_init 13 = .ok (.bipush 21, 2) := by decide +kernel
theorem dX1_init_15 : decode cX1_init 15 = .ok (.newarray .int, 2) := by decide +kernel
theorem dX1_init_17 : decode cX1_init 17 = .ok (.putfield 13, 3) := by decide +kernel
theorem dX1_init_20 : decode cX1_init 20 = .ok (.aload_n 0, 1) := by decide +kernel
theorem dX1_init_21 : decode cX1_init 21 = .ok (.bipush 21, 2) := by decide +kernel
theorem dX1_init_23 : decode cX1_init 23 = .ok (.newarray .int, 2) := by decide +kernel
theorem dX1_init_25 : decode cX1_init 25 = .ok (.putfield 16, 3) := by decide +kernel
theorem dX1_init_28 : decode cX1_init 28 = .ok (.aload_n 0, 1) := by decide +kernel
theorem dX1_init_29 : decode cX1_init 29 = .ok (.sipush 630, 3) := by decide +kernel
theorem dX1_init_32 : decode cX1_init 32 = .ok (.newarray .int, 2) := by decide +kernel
theorem dX1_init_34 : decode cX1_init 34 = .ok (.putfield 19, 3) := by decide +kernel
theorem dX1_init_37 : decode cX1_init 37 = .ok (.return_, 1) := by decide +kernel
theorem dX1_isNull_0 : decode cX1_isNull 0 = .ok (.iload_n 1, 1) := by decide +kernel
theorem dX1_isNull_1 : decode cX1_isNull 1 = .ok (.ifCond .le 17, 3) := by decide +kernel
theorem dX1_isNull_4 : decode cX1_isNull 4 = .ok (.iload_n 1, 1) := by decide +kernel
theorem dX1_isNull_5 : decode cX1_isNull 5 = .ok (.aload_n 0, 1) := by decide +kernel
theorem dX1_isNull_6 : decode cX1_isNull 6 = .ok (.getfield 22, 3) := by decide +kernel
theorem dX1_isNull_9 : decode cX1_isNull 9 = .ok (.if_icmp .gt 9, 3) := by decide +kernel
theorem dX1_isNull_12 : decode cX1_isNull 12 = .ok (.iload_n 1, 1) := by decide +kernel
theorem dX1_isNull_13 : decode cX1_isNull 13 = .ok (.bipush 20, 2) := by decide +kernel
theorem dX1_isNull_15 : decode cX1_isNull 15 = .ok (.if_icmp .le 7, 3) := by decide +kernel
theorem dX1_isNull_18 : decode cX1_isNull 18 = .ok (.iconst 1, 1) := by decide +kernel
theorem dX1_isNull_19 : decode cX1_isNull 19 = .ok (.goto 4, 3) := by decide +kernel
theorem dX1_isNull_22 : decode cX1_isNull 22 = .ok (.iconst 0, 1) := by decide +kernel
theorem dX1_isNull_23 : decode cX1_isNull 23 = .ok (.ireturn, 1) := by decide +kernel
theorem dX1_make_0 : decode cX1_make 0 = .ok (.aload_n 0, 1) := by decide +kernel
theorem dX1_make_1 : decode cX1_make 1 = .ok (.getfield 22, 3) := by decide +kernel
theorem dX1_make_4 : decode cX1_make 4 = .ok (.bipush 20, 2) := by decide +kernel
theorem dX1_make_6 : decode cX1_make 6 = .ok (.if_icmp .ge 13, 3) := by decide +kernel
theorem dX1_make_9 : decode cX1_make 9 = .ok (.iload_n 2, 1) := by decide +kernel
theorem dX1_make_10 : decode cX1_make 10 = .ok (.ifCond .lt 9, 3) := by decide +kernel
theorem dX1_make_13 : decode cX1_make 13 = .ok (.iload_n 2, 1) := by decide +kernel
theorem dX1_make_14 : decode cX1_make 14 = .ok (.bipush 30, 2) := by decide +kernel
theorem dX1_make_16 : decode cX1_make 16 = .ok (.if_icmp .le 5, 3) := by decide +kernel
theorem dX1_make_19 : decode cX1_make 19 = .ok (.iconst 0, 1) := by decide +kernel
theorem dX1_make_20 : decode cX1_make 20 = .ok (.ireturn, 1) := by decide +kernel
theorem dX1_make_21 : decode cX1_make 21 = .ok (.aload_n 0, 1) := by decide +kernel
theorem dX1_make_22 : decode cX1_make 22 = .ok (.dup, 1) := by decide +kernel
theorem dX1_make_23 : decode cX1_make 23 = .ok (.getfield 22, 3) := by decide +kernel
theorem dX1_make_26 : decode cX1_make 26 = .ok (.iconst 1, 1) := by decide +kernel
theorem dX1_make_27 : decode cX1_make 27 = .ok (.iadd, 1) := by decide +kernel
theorem dX1_make_28 : decode cX1_make 28 = .ok (.putfield 22, 3) := by decide +kernel
theorem dX1_make_31 : decode cX1_make 31 = .ok (.aload_n 0, 1) := by decide +kernel
theorem dX1_make_32 : decode cX1_make 32 = .ok (.getfield 9, 3) := by decide +kernel
theorem dX1_make_35 : decode cX1_make 35 = .ok (.aload_n 0, 1) := by decide +kernel
theorem dX1_make_36 : decode cX1_make 36 = .ok (.getfield 22, 3) := by decide +kernel
theorem dX1_make_39 : decode cX1_make 39 = .ok (.iload_n 1, 1) := by decide +kernel
theorem dX1_make_40 : decode cX1_make 40 = .ok (.iastore, 1) := by decide +kernel
theorem dX1_make_41 : decode cX1_make 41 = .ok (.aload_n 0, 1) := by decide +kernel
theorem dX1_make_42 : decode cX1_make 42 = .ok (.getfield 13, 3) := by decide +kernel
theorem dX1_make_45 : decode cX1_make 45 = .ok (.aload_n 0, 1) := by decide +kernel
theorem dX1_make_46 : decode cX1_make 46 = .ok (.getfield 22, 3) := by decide +kernel
theorem dX1_make_49 : decode cX1_make 49 = .ok (.iload_n 2, 1) := by decide +kernel
theorem dX1_make_50 : decode cX1_make 50 = .ok (.iastore, 1) := by decide +kernel
theorem dX1_make_51 : decode cX1_make 51 = .ok (.aload_n 0, 1) := by decide +kernel
theorem dX1_make_52 : decode cX1_make 52 = .ok (.getfield 16, 3) := by decide +kernel
theorem dX1_make_55 : decode cX1_make 55 = .ok (.aload_n 0, 1) := by decide +kernel
theorem dX1_make_56 : decode cX1_make 56 = .ok (.getfield 22, 3) := by decide +kernel
theorem dX1_make_59 : decode cX1_make 59 = .ok (.iconst 0, 1) := by decide +kernel
theorem dX1_make_60 : decode cX1_make 60 = .ok (.iastore, 1) := by decide +kernel
theorem dX1_make_61 : decode cX1_make 61 = .ok (.iconst 0, 1) := by decide +kernel
theorem dX1_make_62 : decode cX1_make 62 = .ok (.istore_n 3, 1) := by decide +kernel
theorem dX1_make_63 : decode cX1_make 63 = .ok (.iload_n 3, 1) := by decide +kernel
theorem dX1_make_64 : decode cX1_make 64 = .ok (.bipush 30, 2) := by decide +kernel
theorem dX1_make_66 : decode cX1_make 66 = .ok (.if_icmp .ge 24, 3) := by decide +kernel
theorem dX1_make_69 : decode cX1_make 69 = .ok (.aload_n 0, 1) := by decide +kernel
theorem dX1_make_70 : decode cX1_make 70 = .ok (.getfield 19, 3) := by decide +kernel
theorem dX1_make_73 : decode cX1_make 73 = .ok (.aload_n 0, 1) := by decide +kernel
theorem dX1_make_74 : decode cX1_make 74 = .ok (.getfield 22, 3) := by decide +kernel
theorem dX1_make_77 : decode cX1_make 77 = .ok (.bipush 30, 2) := by decide +kernel
theorem dX1_make_79 : decode cX1_make 79 = .ok (.imul, 1) := by decide +kernel
theorem dX1_make_80 : decode cX1_make 80 = .ok (.iload_n 3, 1) := by decide +kernel
theorem dX1_make_81 : decode cX1_make 81 = .ok (.iadd, 1) := by decide +kernel
theorem dX1_make_82 : decode cX1_make 82 = .ok (.iconst 0, 1) := by decide +kernel
theorem dX1_make_83 : decode cX1_make 83 = .ok (.iastore, 1) := by decide +kernel
theorem dX1_make_84 : decode cX1_make 84 = .ok (.iinc 3 1, 3) := by decide +kernel
theorem dX1_make_87 : decode cX1_make 87 = .ok (.goto (-24), 3) := by decide +kernel
theorem dX1_make_90 : decode cX1_make 90 = .ok (.aload_n 0, 1) := by decide +kernel
theorem dX1_make_91 : decode cX1_make 91 = .ok (.getfield 22, 3) := by decide +kernel
theorem dX1_make_94 : decode cX1_make 94 = .ok (.ireturn, 1) := by decide +kernel
theorem dX1_length_0 : decode cX1_length 0 = .ok (.aload_n 0, 1) := by decide +kernel
theorem dX1_length_1 : decode cX1_length 1 = .ok (.iload_n 1, 1) := by decide +kernel
theorem dX1_length_2 : decode cX1_length 2 = .ok (.invokevirtual 26, 3) := by decide +kernel
theorem dX1_length_5 : decode cX1_length 5 = .ok (.ifCond .eq 7, 3) := by decide +kernel
theorem dX1_length_8 : decode cX1_length 8 = .ok (.iconst 0, 1) := by decide +kernel
theorem dX1_length_9 : decode cX1_length 9 = .ok (.goto 9, 3) := by decide +kernel
theorem dX1_length_12 : decode cX1_length 12 = .ok (.aload_n 0, 1) := by decide +kernel
theorem dX1_length_13 : decode cX1_length 13 = .ok (.getfield 13, 3) := by decide +kernel
theorem dX1_length_16 : decode cX1_length 16 = .ok (.iload_n 1, 1) := by decide +kernel
theorem dX1_length_17 : decode cX1_length 17 = .ok (.iaload, 1) := by decide +kernel
theorem dX1_length_18 : decode cX1_length 18 = .ok (.ireturn, 1) := by decide +kernel
theorem dX1_hasItem_0 : decode cX1_hasItem 0 = .ok (.aload_n 0, 1) := by decide +kernel
theorem dX1_hasItem_1 : decode cX1_hasItem 1 = .ok (.iload_n 1, 1) := by decide +kernel
theorem dX1_hasItem_2 : decode cX1_hasItem 2 = .ok (.invokevirtual 26, 3) := by decide +kernel
theorem dX1_hasItem_5 : decode cX1_hasItem 5 = .ok (.ifCond .ne 21, 3) := by decide +kernel
theorem dX1_hasItem_8 : decode cX1_hasItem 8 = .ok (.iload_n 2, 1) := by decide +kernel
theorem dX1_hasItem_9 : decode cX1_hasItem 9 = .ok (.ifCond .lt 17, 3) := by decide +kernel
theorem dX1_hasItem_12 : decode cX1_hasItem 12 = .ok (.iload_n 2, 1) := by decide +kernel
theorem dX1_hasItem_13 : decode cX1_hasItem 13 = .ok (.aload_n 0, 1) := by decide +kernel
theorem dX1_hasItem_14 : decode cX1_hasItem 14 = .ok (.getfield 13, 3) := by decide +kernel
theorem dX1_hasItem_17 : decode cX1_hasItem 17 = .ok (.iload_n 1, 1) := by decide +kernel
theorem dX1_hasItem_18 : decode cX1_hasItem 18 = .ok (.iaload, 1) := by decide +kernel
theorem dX1_hasItem_19 : decode cX1_hasItem 19 = .ok (.if_icmp .ge 7, 3) := by decide +kernel
theorem dX1_hasItem_22 : decode cX1_hasItem 22 = .ok (.iconst 1, 1) := by decide +kernel
theorem dX1_hasItem_23 : decode cX1_hasItem 23 = .ok (.goto 4, 3) := by decide +kernel
theorem dX1_hasItem_26 : decode cX1_hasItem 26 = .ok (.iconst 0, 1) := by decide +kernel
theorem dX1_hasItem_27 : decode cX1_hasItem 27 = .ok (.ireturn, 1) := by decide +kernel
theorem dX1_item_0 : decode cX1_item 0 = .ok (.aload_n 0, 1) := by decide +kernel
theorem dX1_item_1 : decode cX1_item 1 = .ok (.iload_n 1, 1) := by decide +kernel
theorem dX1_item_2 : decode cX1_item 2 = .ok (.iload_n 2, 1) := by decide +kernel
theorem dX1_item_3 : decode cX1_item 3 = .ok (.invokevirtual 30, 3) := by decide +kernel
theorem dX1_item_6 : decode cX1_item 6 = .ok (.ifCond .eq 17, 3) := by decide +kernel
theorem dX1_item_9 : decode cX1_item 9 = .ok (.aload_n 0, 1) := by decide +kernel
theorem dX1_item_10 : decode cX1_item 10 = .ok (.getfield 19, 3) := by decide +kernel
theorem dX1_item_13 : decode cX1_item 13 = .ok (.iload_n 1, 1) := by decide +kernel
theorem dX1_item_14 : decode cX1_item 14 = .ok (.bipush 30, 2) := by decide +kernel
theorem dX1_item_16 : decode cX1_item 16 = .ok (.imul, 1) := by decide +kernel
theorem dX1_item_17 : decode cX1_item 17 = .ok (.iload_n 2, 1) := by decide +kernel
theorem dX1_item_18 : decode cX1_item 18 = .ok (.iadd, 1) := by decide +kernel
theorem dX1_item_19 : decode cX1_item 19 = .ok (.iaload, 1) := by decide +kernel
theorem dX1_item_20 : decode cX1_item 20 = .ok (.goto 4, 3) := by decide +kernel
theorem dX1_item_23 : decode cX1_item 23 = .ok (.iconst 0, 1) := by decide +kernel
theorem dX1_item_24 : decode cX1_item 24 = .ok (.ireturn, 1) := by decide +kernel
theorem dX1_putItem_0 : decode cX1_putItem 0 = .ok (.aload_n 0, 1) := by decide +kernel
theorem dX1_putItem_1 : decode cX1_putItem 1 = .ok (.iload_n 1, 1) := by decide +kernel
theorem dX1_putItem_2 : decode cX1_putItem 2 = .ok (.iload_n 2, 1) := by decide +kernel
theorem dX1_putItem_3 : decode cX1_putItem 3 = .ok (.invokevirtual 30, 3) := by decide +kernel
theorem dX1_putItem_6 : decode cX1_putItem 6 = .ok (.ifCond .eq 15, 3) := by decide +kernel
theorem dX1_putItem_9 : decode cX1_putItem 9 = .ok (.aload_n 0, 1) := by decide +kernel
theorem dX1_putItem_10 : decode cX1_putItem 10 = .ok (.getfield 19, 3) := by decide +kernel
theorem dX1_putItem_13 : decode cX1_putItem 13 = .ok (.iload_n 1, 1) := by decide +kernel
theorem dX1_putItem_14 : decode cX1_putItem 14 = .ok (.bipush 30, 2) := by decide +kernel
theorem dX1_putItem_16 : decode cX1_putItem 16 = .ok (.imul, 1) := by decide +kernel
theorem dX1_putItem_17 : decode cX1_putItem 17 = .ok (.iload_n 2, 1) := by decide +kernel
theorem dX1_putItem_18 : decode cX1_putItem 18 = .ok (.iadd, 1) := by decide +kernel
theorem dX1_putItem_19 : decode cX1_putItem 19 = .ok (.iload_n 3, 1) := by decide +kernel
theorem dX1_putItem_20 : decode cX1_putItem 20 = .ok (.iastore, 1) := by decide +kernel
theorem dX1_putItem_21 : decode cX1_putItem 21 = .ok (.return_, 1) := by decide +kernel
theorem dX1_field_0 : decode cX1_field 0 = .ok (.aload_n 0, 1) := by decide +kernel
theorem dX1_field_1 : decode cX1_field 1 = .ok (.iload_n 1, 1) := by decide +kernel
theorem dX1_field_2 : decode cX1_field 2 = .ok (.invokevirtual 26, 3) := by decide +kernel
theorem dX1_field_5 : decode cX1_field 5 = .ok (.ifCond .eq 7, 3) := by decide +kernel
theorem dX1_field_8 : decode cX1_field 8 = .ok (.iconst 0, 1) := by decide +kernel
theorem dX1_field_9 : decode cX1_field 9 = .ok (.goto 9, 3) := by decide +kernel
theorem dX1_field_12 : decode cX1_field 12 = .ok (.aload_n 0, 1) := by decide +kernel
theorem dX1_field_13 : decode cX1_field 13 = .ok (.getfield 16, 3) := by decide +kernel
theorem dX1_field_16 : decode cX1_field 16 = .ok (.iload_n 1, 1) := by decide +kernel
theorem dX1_field_17 : decode cX1_field 17 = .ok (.iaload, 1) := by decide +kernel
theorem dX1_field_18 : decode cX1_field 18 = .ok (.ireturn, 1) := by decide +kernel
theorem dX1_putField_0 : decode cX1_putField 0 = .ok (.aload_n 0, 1) := by decide +kernel
theorem dX1_putField_1 : decode cX1_putField 1 = .ok (.iload_n 1, 1) := by decide +kernel
theorem dX1_putField_2 : decode cX1_putField 2 = .ok (.invokevirtual 26, 3) := by decide +kernel
theorem dX1_putField_5 : decode cX1_putField 5 = .ok (.ifCond .ne 10, 3) := by decide +kernel
theorem dX1_putField_8 : decode cX1_putField 8 = .ok (.aload_n 0, 1) := by decide +kernel
theorem dX1_putField_9 : decode cX1_putField 9 = .ok (.getfield 16, 3) := by decide +kernel
theorem dX1_putField_12 : decode cX1_putField 12 = .ok (.iload_n 1, 1) := by decide +kernel
theorem dX1_putField_13 : decode cX1_putField 13 = .ok (.iload_n 2, 1) := by decide +kernel
theorem dX1_putField_14 : decode cX1_putField 14 = .ok (.iastore, 1) := by decide +kernel
theorem dX1_putField_15 : decode cX1_putField 15 = .ok (.return_, 1) := by decide +kernel
theorem dX1_isOf_0 : decode cX1_isOf 0 = .ok (.aload_n 0, 1) := by decide +kernel
theorem dX1_isOf_1 : decode cX1_isOf 1 = .ok (.iload_n 1, 1) := by decide +kernel
theorem dX1_isOf_2 : decode cX1_isOf 2 = .ok (.invokevirtual 26, 3) := by decide +kernel
theorem dX1_isOf_5 : decode cX1_isOf 5 = .ok (.ifCond .eq 5, 3) := by decide +kernel
theorem dX1_isOf_8 : decode cX1_isOf 8 = .ok (.iconst 0, 1) := by decide +kernel
theorem dX1_isOf_9 : decode cX1_isOf 9 = .ok (.ireturn, 1) := by decide +kernel
theorem dX1_isOf_10 : decode cX1_isOf 10 = .ok (.aload_n 0, 1) := by decide +kernel
theorem dX1_isOf_11 : decode cX1_isOf 11 = .ok (.getfield 9, 3) := by decide +kernel
theorem dX1_isOf_14 : decode cX1_isOf 14 = .ok (.iload_n 1, 1) := by decide +kernel
theorem dX1_isOf_15 : decode cX1_isOf 15 = .ok (.iaload, 1) := by decide +kernel
theorem dX1_isOf_16 : decode cX1_isOf 16 = .ok (.invokestatic 34, 3) := by decide +kernel
theorem dX1_isOf_19 : decode cX1_isOf 19 = .ok (.ifCond .ne 13, 3) := by decide +kernel
theorem dX1_isOf_22 : decode cX1_isOf 22 = .ok (.iload_n 2, 1) := by decide +kernel
theorem dX1_isOf_23 : decode cX1_isOf 23 = .ok (.ifCond .ne 7, 3) := by decide +kernel
theorem dX1_isOf_26 : decode cX1_isOf 26 = .ok (.iconst 1, 1) := by decide +kernel
theorem dX1_isOf_27 : decode cX1_isOf 27 = .ok (.goto 4, 3) := by decide +kernel
theorem dX1_isOf_30 : decode cX1_isOf 30 = .ok (.iconst 0, 1) := by decide +kernel
theorem dX1_isOf_31 : decode cX1_isOf 31 = .ok (.ireturn, 1) := by decide +kernel
theorem dX1_isOf_32 : decode cX1_isOf 32 = .ok (.aload_n 0, 1) := by decide +kernel
theorem dX1_isOf_33 : decode cX1_isOf 33 = .ok (.getfield 9, 3) := by decide +kernel
theorem dX1_isOf_36 : decode cX1_isOf 36 = .ok (.iload_n 1, 1) := by decide +kernel
theorem dX1_isOf_37 : decode cX1_isOf 37 = .ok (.iaload, 1) := by decide +kernel
theorem dX1_isOf_38 : decode cX1_isOf 38 = .ok (.bipush 10, 2) := by decide +kernel
theorem dX1_isOf_40 : decode cX1_isOf 40 = .ok (.isub, 1) := by decide +kernel
theorem dX1_isOf_41 : decode cX1_isOf 41 = .ok (.iload_n 2, 1) := by decide +kernel
theorem dX1_isOf_42 : decode cX1_isOf 42 = .ok (.invokestatic 39, 3) := by decide +kernel
theorem dX1_isOf_45 : decode cX1_isOf 45 = .ok (.ireturn, 1) := by decide +kernel
theorem dX1_canHold_0 : decode cX1_canHold 0 = .ok (.aload_n 0, 1) := by decide +kernel
theorem dX1_canHold_1 : decode cX1_canHold 1 = .ok (.iload_n 2, 1) := by decide +kernel
theorem dX1_canHold_2 : decode cX1_canHold 2 = .ok (.invokevirtual 26, 3) := by decide +kernel
theorem dX1_canHold_5 : decode cX1_canHold 5 = .ok (.ifCond .ne 28, 3) := by decide +kernel
theorem dX1_canHold_8 : decode cX1_canHold 8 = .ok (.aload_n 0, 1) := by decide +kernel
theorem dX1_canHold_9 : decode cX1_canHold 9 = .ok (.iload_n 1, 1) := by decide +kernel
theorem dX1_canHold_10 : decode cX1_canHold 10 = .ok (.invokevirtual 26, 3) := by decide +kernel
theorem dX1_canHold_13 : decode cX1_canHold 13 = .ok (.ifCond .ne 24, 3) := by decide +kernel
theorem dX1_canHold_16 : decode cX1_canHold 16 = .ok (.aload_n 0, 1) := by decide +kernel
theorem dX1_canHold_17 : decode cX1_canHold 17 = .ok (.iload_n 2, 1) := by decide +kernel
theorem dX1_canHold_18 : decode cX1_canHold 18 = .ok (.aload_n 0, 1) := by decide +kernel
theorem dX1_canHold_19 : decode cX1_canHold 19 = .ok (.getfield 9, 3) := by decide +kernel
theorem dX1_canHold_22 : decode cX1_canHold 22 = .ok (.iload_n 1, 1) := by decide +kernel
theorem dX1_canHold_23 : decode cX1_canHold 23 = .ok (.iaload, 1) := by decide +kernel
theorem dX1_canHold_24 : decode cX1_canHold 24 = .ok (.bipush 20, 2) := by decide +kernel
theorem dX1_canHold_26 : decode cX1_canHold 26 = .ok (.isub, 1) := by decide +kernel
theorem dX1_canHold_27 : decode cX1_canHold 27 = .ok (.invokevirtual 42, 3) := by decide +kernel
theorem dX1_canHold_30 : decode cX1_canHold 30 = .ok (.ifCond .eq 7, 3) := by decide +kernel
theorem dX1_canHold_33 : decode cX1_canHold 33 = .ok (.iconst 1, 1) := by decide +kernel
theorem dX1_canHold_34 : decode cX1_canHold 34 = .ok (.goto 4, 3) := by decide +kernel
theorem dX1_canHold_37 : decode cX1_canHold 37 = .ok (.iconst 0, 1) := by decide +kernel
theorem dX1_canHold_38 : decode cX1_canHold 38 = .ok (.ireturn, 1) := by decide +kernel
theorem dX1_worth_0 : decode cX1_worth 0 = .ok (.aload_n 0, 1) := by decide +kernel
theorem dX1_worth_1 : decode cX1_worth 1 = .ok (.iload_n 1, 1) := by decide +kernel
theorem dX1_worth_2 : decode cX1_worth 2 = .ok (.invokevirtual 26, 3) := by decide +kernel
theorem dX1_worth_5 : decode cX1_worth 5 = .ok (.ifCond .eq 5, 3) := by decide +kernel
theorem dX1_worth_8 : decode cX1_worth 8 = .ok (.iconst 0, 1) := by decide +kernel
theorem dX1_worth_9 : decode cX1_worth 9 = .ok (.ireturn, 1) := by decide +kernel
theorem dX1_worth_10 : decode cX1_worth 10 = .ok (.iconst 1, 1) := by decide +kernel
theorem dX1_worth_11 : decode cX1_worth 11 = .ok (.aload_n 0, 1) := by decide +kernel
theorem dX1_worth_12 : decode cX1_worth 12 = .ok (.getfield 16, 3) := by decide +kernel
theorem dX1_worth_15 : decode cX1_worth 15 = .ok (.iload_n 1, 1) := by decide +kernel
theorem dX1_worth_16 : decode cX1_worth 16 = .ok (.iaload, 1) := by decide +kernel
theorem dX1_worth_17 : decode cX1_worth 17 = .ok (.iadd, 1) := by decide +kernel
theorem dX1_worth_18 : decode cX1_worth 18 = .ok (.istore_n 2, 1) := by decide +kernel
theorem dX1_worth_19 : decode cX1_worth 19 = .ok (.bipush 10, 2) := by decide +kernel
theorem dX1_worth_21 : decode cX1_worth 21 = .ok (.istore_n 3, 1) := by decide +kernel
theorem dX1_worth_22 : decode cX1_worth 22 = .ok (.bipush 100, 2) := by decide +kernel
theorem dX1_worth_24 : decode cX1_worth 24 = .ok (.aload_n 0, 1) := by decide +kernel
theorem dX1_worth_25 : decode cX1_worth 25 = .ok (.getfield 16, 3) := by decide +kernel
theorem dX1_worth_28 : decode cX1_worth 28 = .ok (.iload_n 1, 1) := by decide +kernel
theorem dX1_worth_29 : decode cX1_worth 29 = .ok (.iaload, 1) := by decide +kernel
theorem dX1_worth_30 : decode cX1_worth 30 = .ok (.iadd, 1) := by decide +kernel
theorem dX1_worth_31 : decode cX1_worth 31 = .ok (.istore 4, 2) := by decide +kernel
theorem dX1_worth_33 : decode cX1_worth 33 = .ok (.aload_n 0, 1) := by decide +kernel
theorem dX1_worth_34 : decode cX1_worth 34 = .ok (.getfield 9, 3) := by decide +kernel
theorem dX1_worth_37 : decode cX1_worth 37 = .ok (.iload_n 1, 1) := by decide +kernel
theorem dX1_worth_38 : decode cX1_worth 38 = .ok (.iaload, 1) := by decide +kernel
theorem dX1_worth_39 : decode cX1_worth 39 = .ok (.bipush 10, 2) := by decide +kernel
theorem dX1_worth_41 : decode cX1_worth 41 = .ok (.isub, 1) := by decide +kernel
theorem dX1_worth_42 : decode cX1_worth 42 = .ok (.tableswitch 49 1 4 #[30, 32, 36, 40], 30) := by decide +kernel
theorem dX1_worth_72 : decode cX1_worth 72 = .ok (.iload_n 2, 1) := by decide +kernel
theorem dX1_worth_73 : decode cX1_worth 73 = .ok (.ireturn, 1) := by decide +kernel
theorem dX1_worth_74 : decode cX1_worth 74 = .ok (.iconst 2, 1) := by decide +kernel
theorem dX1_worth_75 : decode cX1_worth 75 = .ok (.iload_n 2, 1) := by decide +kernel
theorem dX1_worth_76 : decode cX1_worth 76 = .ok (.imul, 1) := by decide +kernel
theorem dX1_worth_77 : decode cX1_worth 77 = .ok (.ireturn, 1) := by decide +kernel
theorem dX1_worth_78 : decode cX1_worth 78 = .ok (.iload_n 3, 1) := by decide +kernel
theorem dX1_worth_79 : decode cX1_worth 79 = .ok (.iload_n 2, 1) := by decide +kernel
theorem dX1_worth_80 : decode cX1_worth 80 = .ok (.iadd, 1) := by decide +kernel
theorem dX1_worth_81 : decode cX1_worth 81 = .ok (.ireturn, 1) := by decide +kernel
theorem dX1_worth_82 : decode cX1_worth 82 = .ok (.iconst 2, 1) := by decide +kernel
theorem dX1_worth_83 : decode cX1_worth 83 = .ok (.iload_n 2, 1) := by decide +kernel
theorem dX1_worth_84 : decode cX1_worth 84 = .ok (.imul, 1) := by decide +kernel
theorem dX1_worth_85 : decode cX1_worth 85 = .ok (.iload_n 3, 1) := by decide +kernel
theorem dX1_worth_86 : decode cX1_worth 86 = .ok (.isub, 1) := by decide +kernel
theorem dX1_worth_87 : decode cX1_worth 87 = .ok (.iload 4, 2) := by decide +kernel
theorem dX1_worth_89 : decode cX1_worth 89 = .ok (.iadd, 1) := by decide +kernel
theorem dX1_worth_90 : decode cX1_worth 90 = .ok (.ireturn, 1) := by decide +kernel
theorem dX1_worth_91 : decode cX1_worth 91 = .ok (.iload 4, 2) := by decide +kernel
theorem dX1_worth_93 : decode cX1_worth 93 = .ok (.ireturn, 1) := by decide +kernel
