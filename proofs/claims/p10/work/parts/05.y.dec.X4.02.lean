theorem dX4_asks_29 : decode cX4_asks 29 = .ok (.goto 4, 3) := by decide +kernel
theorem dX4_asks_32 : decode cX4_asks 32 = .ok (.lconst 0, 1) := by decide +kernel
theorem dX4_asks_33 : decode cX4_asks 33 = .ok (.invokevirtual 112, 3) := by decide +kernel
theorem dX4_asks_36 : decode cX4_asks 36 = .ok (.iconst 0, 1) := by decide +kernel
theorem dX4_asks_37 : decode cX4_asks 37 = .ok (.ireturn, 1) := by decide +kernel
theorem dX4_asks_38 : decode cX4_asks 38 = .ok (.iload 4, 2) := by decide +kernel
theorem dX4_asks_40 : decode cX4_asks 40 = .ok (.ifCond .ne 16, 3) := by decide +kernel
theorem dX4_asks_43 : decode cX4_asks 43 = .ok (.aload_n 0, 1) := by decide +kernel
theorem dX4_asks_44 : decode cX4_asks 44 = .ok (.getfield 14, 3) := by decide +kernel
theorem dX4_asks_47 : decode cX4_asks 47 = .ok (.iload_n 3, 1) := by decide +kernel
theorem dX4_asks_48 : decode cX4_asks 48 = .ok (.invokevirtual 178, 3) := by decide +kernel
theorem dX4_asks_51 : decode cX4_asks 51 = .ok (.ifCond .ne 5, 3) := by decide +kernel
theorem dX4_asks_54 : decode cX4_asks 54 = .ok (.iconst 4, 1) := by decide +kernel
theorem dX4_asks_55 : decode cX4_asks 55 = .ok (.ireturn, 1) := by decide +kernel
theorem dX4_asks_56 : decode cX4_asks 56 = .ok (.aload_n 0, 1) := by decide +kernel
theorem dX4_asks_57 : decode cX4_asks 57 = .ok (.iload_n 3, 1) := by decide +kernel
theorem dX4_asks_58 : decode cX4_asks 58 = .ok (.i2l, 1) := by decide +kernel
theorem dX4_asks_59 : decode cX4_asks 59 = .ok (.invokevirtual 112, 3) := by decide +kernel
theorem dX4_asks_62 : decode cX4_asks 62 = .ok (.iconst 0, 1) := by decide +kernel
theorem dX4_asks_63 : decode cX4_asks 63 = .ok (.ireturn, 1) := by decide +kernel
theorem dX4_usesObject_0 : decode cX4_usesObject 0 = .ok (.iload_n 1, 1) := by decide +kernel
theorem dX4_usesObject_1 : decode cX4_usesObject 1 = .ok (.bipush 24, 2) := by decide +kernel
theorem dX4_usesObject_3 : decode cX4_usesObject 3 = .ok (.if_icmp .ne 10, 3) := by decide +kernel
theorem dX4_usesObject_6 : decode cX4_usesObject 6 = .ok (.aload_n 0, 1) := by decide +kernel
theorem dX4_usesObject_7 : decode cX4_usesObject 7 = .ok (.invokevirtual 162, 3) := by decide +kernel
theorem dX4_usesObject_10 : decode cX4_usesObject 10 = .ok (.goto 4, 3) := by decide +kernel
theorem dX4_usesObject_13 : decode cX4_usesObject 13 = .ok (.iconst 0, 1) := by decide +kernel
theorem dX4_usesObject_14 : decode cX4_usesObject 14 = .ok (.istore_n 2, 1) := by decide +kernel
theorem dX4_usesObject_15 : decode cX4_usesObject 15 = .ok (.aload_n 0, 1) := by decide +kernel
theorem dX4_usesObject_16 : decode cX4_usesObject 16 = .ok (.invokevirtual 162, 3) := by decide +kernel
theorem dX4_usesObject_19 : decode cX4_usesObject 19 = .ok (.istore_n 3, 1) := by decide +kernel
theorem dX4_usesObject_20 : decode cX4_usesObject 20 = .ok (.aload_n 0, 1) := by decide +kernel
theorem dX4_usesObject_21 : decode cX4_usesObject 21 = .ok (.getfield 14, 3) := by decide +kernel
theorem dX4_usesObject_24 : decode cX4_usesObject 24 = .ok (.iload_n 3, 1) := by decide +kernel
theorem dX4_usesObject_25 : decode cX4_usesObject 25 = .ok (.invokevirtual 178, 3) := by decide +kernel
theorem dX4_usesObject_28 : decode cX4_usesObject 28 = .ok (.ifCond .eq 5, 3) := by decide +kernel
theorem dX4_usesObject_31 : decode cX4_usesObject 31 = .ok (.iconst 1, 1) := by decide +kernel
theorem dX4_usesObject_32 : decode cX4_usesObject 32 = .ok (.ireturn, 1) := by decide +kernel
theorem dX4_usesObject_33 : decode cX4_usesObject 33 = .ok (.iload_n 1, 1) := by decide +kernel
theorem dX4_usesObject_34 : decode cX4_usesObject 34 = .ok (.bipush 23, 2) := by decide +kernel
theorem dX4_usesObject_36 : decode cX4_usesObject 36 = .ok (.if_icmp .ne 19, 3) := by decide +kernel
theorem dX4_usesObject_39 : decode cX4_usesObject 39 = .ok (.aload_n 0, 1) := by decide +kernel
theorem dX4_usesObject_40 : decode cX4_usesObject 40 = .ok (.aload_n 0, 1) := by decide +kernel
theorem dX4_usesObject_41 : decode cX4_usesObject 41 = .ok (.getfield 14, 3) := by decide +kernel
theorem dX4_usesObject_44 : decode cX4_usesObject 44 = .ok (.iload_n 3, 1) := by decide +kernel
theorem dX4_usesObject_45 : decode cX4_usesObject 45 = .ok (.invokevirtual 202, 3) := by decide +kernel
theorem dX4_usesObject_48 : decode cX4_usesObject 48 = .ok (.i2l, 1) := by decide +kernel
theorem dX4_usesObject_49 : decode cX4_usesObject 49 = .ok (.invokevirtual 112, 3) := by decide +kernel
theorem dX4_usesObject_52 : decode cX4_usesObject 52 = .ok (.goto 34, 3) := by decide +kernel
theorem dX4_usesObject_55 : decode cX4_usesObject 55 = .ok (.iload_n 1, 1) := by decide +kernel
theorem dX4_usesObject_56 : decode cX4_usesObject 56 = .ok (.bipush 24, 2) := by decide +kernel
theorem dX4_usesObject_58 : decode cX4_usesObject 58 = .ok (.if_icmp .ne 15, 3) := by decide +kernel
theorem dX4_usesObject_61 : decode cX4_usesObject 61 = .ok (.aload_n 0, 1) := by decide +kernel
theorem dX4_usesObject_62 : decode cX4_usesObject 62 = .ok (.getfield 14, 3) := by decide +kernel
theorem dX4_usesObject_65 : decode cX4_usesObject 65 = .ok (.iload_n 3, 1) := by decide +kernel
theorem dX4_usesObject_66 : decode cX4_usesObject 66 = .ok (.iload_n 2, 1) := by decide +kernel
theorem dX4_usesObject_67 : decode cX4_usesObject 67 = .ok (.invokevirtual 205, 3) := by decide +kernel
theorem dX4_usesObject_70 : decode cX4_usesObject 70 = .ok (.goto 16, 3) := by decide +kernel
theorem dX4_usesObject_73 : decode cX4_usesObject 73 = .ok (.aload_n 0, 1) := by decide +kernel
theorem dX4_usesObject_74 : decode cX4_usesObject 74 = .ok (.aload_n 0, 1) := by decide +kernel
theorem dX4_usesObject_75 : decode cX4_usesObject 75 = .ok (.getfield 14, 3) := by decide +kernel
theorem dX4_usesObject_78 : decode cX4_usesObject 78 = .ok (.iload_n 3, 1) := by decide +kernel
theorem dX4_usesObject_79 : decode cX4_usesObject 79 = .ok (.invokevirtual 208, 3) := by decide +kernel
theorem dX4_usesObject_82 : decode cX4_usesObject 82 = .ok (.i2l, 1) := by decide +kernel
theorem dX4_usesObject_83 : decode cX4_usesObject 83 = .ok (.invokevirtual 112, 3) := by decide +kernel
theorem dX4_usesObject_86 : decode cX4_usesObject 86 = .ok (.iconst 0, 1) := by decide +kernel
theorem dX4_usesObject_87 : decode cX4_usesObject 87 = .ok (.ireturn, 1) := by decide +kernel
theorem dX4_turns_0 : decode cX4_turns 0 = .ok (.aload_n 0, 1) := by decide +kernel
theorem dX4_turns_1 : decode cX4_turns 1 = .ok (.invokevirtual 116, 3) := by decide +kernel
theorem dX4_turns_4 : decode cX4_turns 4 = .ok (.lstore_n 2, 1) := by decide +kernel
theorem dX4_turns_5 : decode cX4_turns 5 = .ok (.iload_n 1, 1) := by decide +kernel
theorem dX4_turns_6 : decode cX4_turns 6 = .ok (.bipush 26, 2) := by decide +kernel
theorem dX4_turns_8 : decode cX4_turns 8 = .ok (.if_icmp .ne 16, 3) := by decide +kernel
theorem dX4_turns_11 : decode cX4_turns 11 = .ok (.aload_n 0, 1) := by decide +kernel
theorem dX4_turns_12 : decode cX4_turns 12 = .ok (.lload_n 2, 1) := by decide +kernel
theorem dX4_turns_13 : decode cX4_turns 13 = .ok (.invokevirtual 112, 3) := by decide +kernel
theorem dX4_turns_16 : decode cX4_turns 16 = .ok (.aload_n 0, 1) := by decide +kernel
theorem dX4_turns_17 : decode cX4_turns 17 = .ok (.lload_n 2, 1) := by decide +kernel
theorem dX4_turns_18 : decode cX4_turns 18 = .ok (.invokevirtual 112, 3) := by decide +kernel
theorem dX4_turns_21 : decode cX4_turns 21 = .ok (.goto 26, 3) := by decide +kernel
theorem dX4_turns_24 : decode cX4_turns 24 = .ok (.iload_n 1, 1) := by decide +kernel
theorem dX4_turns_25 : decode cX4_turns 25 = .ok (.bipush 28, 2) := by decide +kernel
theorem dX4_turns_27 : decode cX4_turns 27 = .ok (.if_icmp .ne 20, 3) := by decide +kernel
theorem dX4_turns_30 : decode cX4_turns 30 = .ok (.aload_n 0, 1) := by decide +kernel
theorem dX4_turns_31 : decode cX4_turns 31 = .ok (.invokevirtual 116, 3) := by decide +kernel
theorem dX4_turns_34 : decode cX4_turns 34 = .ok (.lstore 4, 2) := by decide +kernel
theorem dX4_turns_36 : decode cX4_turns 36 = .ok (.aload_n 0, 1) := by decide +kernel
theorem dX4_turns_37 : decode cX4_turns 37 = .ok (.lload_n 2, 1) := by decide +kernel
theorem dX4_turns_38 : decode cX4_turns 38 = .ok (.invokevirtual 112, 3) := by decide +kernel
theorem dX4_turns_41 : decode cX4_turns 41 = .ok (.aload_n 0, 1) := by decide +kernel
theorem dX4_turns_42 : decode cX4_turns 42 = .ok (.lload 4, 2) := by decide +kernel
theorem dX4_turns_44 : decode cX4_turns 44 = .ok (.invokevirtual 112, 3) := by decide +kernel
theorem dX4_turns_47 : decode cX4_turns 47 = .ok (.iconst 0, 1) := by decide +kernel
theorem dX4_turns_48 : decode cX4_turns 48 = .ok (.ireturn, 1) := by decide +kernel
theorem dX4_leads_0 : decode cX4_leads 0 = .ok (.iload_n 2, 1) := by decide +kernel
theorem dX4_leads_1 : decode cX4_leads 1 = .ok (.tableswitch 96 29 33 #[35, 42, 60, 77, 86], 35) := by decide +kernel
theorem dX4_leads_36 : decode cX4_leads 36 = .ok (.aload_n 0, 1) := by decide +kernel
theorem dX4_leads_37 : decode cX4_leads 37 = .ok (.iconst 1, 1) := by decide +kernel
theorem dX4_leads_38 : decode cX4_leads 38 = .ok (.lload_n 3, 1) := by decide +kernel
theorem dX4_leads_39 : decode cX4_leads 39 = .ok (.invokevirtual 211, 3) := by decide +kernel
theorem dX4_leads_42 : decode cX4_leads 42 = .ok (.ireturn, 1) := by decide +kernel
theorem dX4_leads_43 : decode cX4_leads 43 = .ok (.aload_n 0, 1) := by decide +kernel
theorem dX4_leads_44 : decode cX4_leads 44 = .ok (.aload_n 0, 1) := by decide +kernel
theorem dX4_leads_45 : decode cX4_leads 45 = .ok (.invokevirtual 162, 3) := by decide +kernel
theorem dX4_leads_48 : decode cX4_leads 48 = .ok (.ifCond .ne 7, 3) := by decide +kernel
theorem dX4_leads_51 : decode cX4_leads 51 = .ok (.iconst 1, 1) := by decide +kernel
theorem dX4_leads_52 : decode cX4_leads 52 = .ok (.goto 4, 3) := by decide +kernel
theorem dX4_leads_55 : decode cX4_leads 55 = .ok (.iconst 0, 1) := by decide +kernel
theorem dX4_leads_56 : decode cX4_leads 56 = .ok (.lload_n 3, 1) := by decide +kernel
theorem dX4_leads_57 : decode cX4_leads 57 = .ok (.invokevirtual 211, 3) := by decide +kernel
theorem dX4_leads_60 : decode cX4_leads 60 = .ok (.ireturn, 1) := by decide +kernel
theorem dX4_leads_61 : decode cX4_leads 61 = .ok (.aload_n 0, 1) := by decide +kernel
theorem dX4_leads_62 : decode cX4_leads 62 = .ok (.aload_n 0, 1) := by decide +kernel
theorem dX4_leads_63 : decode cX4_leads 63 = .ok (.getfield 14, 3) := by decide +kernel
theorem dX4_leads_66 : decode cX4_leads 66 = .ok (.aload_n 0, 1) := by decide +kernel
theorem dX4_leads_67 : decode cX4_leads 67 = .ok (.invokevirtual 162, 3) := by decide +kernel
theorem dX4_leads_70 : decode cX4_leads 70 = .ok (.invokevirtual 178, 3) := by decide +kernel
theorem dX4_leads_73 : decode cX4_leads 73 = .ok (.lload_n 3, 1) := by decide +kernel
theorem dX4_leads_74 : decode cX4_leads 74 = .ok (.invokevirtual 211, 3) := by decide +kernel
theorem dX4_leads_77 : decode cX4_leads 77 = .ok (.ireturn, 1) := by decide +kernel
theorem dX4_leads_78 : decode cX4_leads 78 = .ok (.aload_n 0, 1) := by decide +kernel
theorem dX4_leads_79 : decode cX4_leads 79 = .ok (.aload_n 0, 1) := by decide +kernel
theorem dX4_leads_80 : decode cX4_leads 80 = .ok (.invokevirtual 162, 3) := by decide +kernel
theorem dX4_leads_83 : decode cX4_leads 83 = .ok (.invokevirtual 215, 3) := by decide +kernel
theorem dX4_leads_86 : decode cX4_leads 86 = .ok (.ireturn, 1) := by decide +kernel
theorem dX4_leads_87 : decode cX4_leads 87 = .ok (.aload_n 0, 1) := by decide +kernel
theorem dX4_leads_88 : decode cX4_leads 88 = .ok (.aload_n 1, 1) := by decide +kernel
theorem dX4_leads_89 : decode cX4_leads 89 = .ok (.lload_n 3, 1) := by decide +kernel
theorem dX4_leads_90 : decode cX4_leads 90 = .ok (.invokevirtual 218, 3) := by decide +kernel
theorem dX4_leads_93 : decode cX4_leads 93 = .ok (.invokevirtual 222, 3) := by decide +kernel
theorem dX4_leads_96 : decode cX4_leads 96 = .ok (.ireturn, 1) := by decide +kernel
theorem dX4_leads_97 : decode cX4_leads 97 = .ok (.aload_n 0, 1) := by decide +kernel
theorem dX4_leads_98 : decode cX4_leads 98 = .ok (.aload_n 0, 1) := by decide +kernel
theorem dX4_leads_99 : decode cX4_leads 99 = .ok (.invokevirtual 162, 3) := by decide +kernel
theorem dX4_leads_102 : decode cX4_leads 102 = .ok (.putfield 97, 3) := by decide +kernel
theorem dX4_leads_105 : decode cX4_leads 105 = .ok (.bipush 7, 2) := by decide +kernel
theorem dX4_leads_107 : decode cX4_leads 107 = .ok (.ireturn, 1) := by decide +kernel
theorem dX4_jumpsIf_0 : decode cX4_jumpsIf 0 = .ok (.iload_n 1, 1) := by decide +kernel
theorem dX4_jumpsIf_1 : decode cX4_jumpsIf 1 = .ok (.ifCond .ne 5, 3) := by decide +kernel
theorem dX4_jumpsIf_4 : decode cX4_jumpsIf 4 = .ok (.iconst 0, 1) := by decide +kernel
theorem dX4_jumpsIf_5 : decode cX4_jumpsIf 5 = .ok (.ireturn, 1) := by decide +kernel
theorem dX4_jumpsIf_6 : decode cX4_jumpsIf 6 = .ok (.aload_n 0, 1) := by decide +kernel
theorem dX4_jumpsIf_7 : decode cX4_jumpsIf 7 = .ok (.getfield 26, 3) := by decide +kernel
theorem dX4_jumpsIf_10 : decode cX4_jumpsIf 10 = .ok (.aload_n 0, 1) := by decide +kernel
theorem dX4_jumpsIf_11 : decode cX4_jumpsIf 11 = .ok (.getfield 50, 3) := by decide +kernel
theorem dX4_jumpsIf_14 : decode cX4_jumpsIf 14 = .ok (.lload_n 2, 1) := by decide +kernel
theorem dX4_jumpsIf_15 : decode cX4_jumpsIf 15 = .ok (.l2i, 1) := by decide +kernel
theorem dX4_jumpsIf_16 : decode cX4_jumpsIf 16 = .ok (.iastore, 1) := by decide +kernel
theorem dX4_jumpsIf_17 : decode cX4_jumpsIf 17 = .ok (.iconst (-1), 1) := by decide +kernel
theorem dX4_jumpsIf_18 : decode cX4_jumpsIf 18 = .ok (.ireturn, 1) := by decide +kernel
theorem dX4_returns_0 : decode cX4_returns 0 = .ok (.aload_n 0, 1) := by decide +kernel
theorem dX4_returns_1 : decode cX4_returns 1 = .ok (.getfield 50, 3) := by decide +kernel
theorem dX4_returns_4 : decode cX4_returns 4 = .ok (.ifCond .ne 11, 3) := by decide +kernel
theorem dX4_returns_7 : decode cX4_returns 7 = .ok (.aload_n 0, 1) := by decide +kernel
theorem dX4_returns_8 : decode cX4_returns 8 = .ok (.iconst 0, 1) := by decide +kernel
theorem dX4_returns_9 : decode cX4_returns 9 = .ok (.iload_n 1, 1) := by decide +kernel
theorem dX4_returns_10 : decode cX4_returns 10 = .ok (.invokevirtual 100, 3) := by decide +kernel
theorem dX4_returns_13 : decode cX4_returns 13 = .ok (.iconst (-1), 1) := by decide +kernel
theorem dX4_returns_14 : decode cX4_returns 14 = .ok (.ireturn, 1) := by decide +kernel
theorem dX4_returns_15 : decode cX4_returns 15 = .ok (.aload_n 0, 1) := by decide +kernel
theorem dX4_returns_16 : decode cX4_returns 16 = .ok (.dup, 1) := by decide +kernel
theorem dX4_returns_17 : decode cX4_returns 17 = .ok (.getfield 50, 3) := by decide +kernel
theorem dX4_returns_20 : decode cX4_returns 20 = .ok (.iconst 1, 1) := by decide +kernel
theorem dX4_returns_21 : decode cX4_returns 21 = .ok (.isub, 1) := by decide +kernel
theorem dX4_returns_22 : decode cX4_returns 22 = .ok (.putfield 50, 3) := by decide +kernel
theorem dX4_returns_25 : decode cX4_returns 25 = .ok (.aload_n 0, 1) := by decide +kernel
theorem dX4_returns_26 : decode cX4_returns 26 = .ok (.iload_n 1, 1) := by decide +kernel
theorem dX4_returns_27 : decode cX4_returns 27 = .ok (.i2l, 1) := by decide +kernel
theorem dX4_returns_28 : decode cX4_returns 28 = .ok (.invokevirtual 112, 3) := by decide +kernel
theorem dX4_returns_31 : decode cX4_returns 31 = .ok (.aload_n 0, 1) := by decide +kernel
theorem dX4_returns_32 : decode cX4_returns 32 = .ok (.getfield 26, 3) := by decide +kernel
theorem dX4_returns_35 : decode cX4_returns 35 = .ok (.aload_n 0, 1) := by decide +kernel
theorem dX4_returns_36 : decode cX4_returns 36 = .ok (.getfield 50, 3) := by decide +kernel
theorem dX4_returns_39 : decode cX4_returns 39 = .ok (.dup2, 1) := by decide +kernel
theorem dX4_returns_40 : decode cX4_returns 40 = .ok (.iaload, 1) := by decide +kernel
theorem dX4_returns_41 : decode cX4_returns 41 = .ok (.iconst 1, 1) := by decide +kernel
theorem dX4_returns_42 : decode cX4_returns 42 = .ok (.iadd, 1) := by decide +kernel
theorem dX4_returns_43 : decode cX4_returns 43 = .ok (.iastore, 1) := by decide +kernel
theorem dX4_returns_44 : decode cX4_returns 44 = .ok (.iconst (-1), 1) := by decide +kernel
theorem dX4_returns_45 : decode cX4_returns 45 = .ok (.ireturn, 1) := by decide +kernel
theorem dX4_calls_0 : decode cX4_calls 0 = .ok (.aload_n 1, 1) := by decide +kernel
theorem dX4_calls_1 : decode cX4_calls 1 = .ok (.ifnull 14, 3) := by decide +kernel
theorem dX4_calls_4 : decode cX4_calls 4 = .ok (.aload_n 0, 1) := by decide +kernel
theorem dX4_calls_5 : decode cX4_calls 5 = .ok (.getfield 50, 3) := by decide +kernel
theorem dX4_calls_8 : decode cX4_calls 8 = .ok (.iconst 1, 1) := by decide +kernel
theorem dX4_calls_9 : decode cX4_calls 9 = .ok (.iadd, 1) := by decide +kernel
theorem dX4_calls_10 : decode cX4_calls 10 = .ok (.bipush 8, 2) := by decide +kernel
theorem dX4_calls_12 : decode cX4_calls 12 = .ok (.if_icmp .lt 5, 3) := by decide +kernel
theorem dX4_calls_15 : decode cX4_calls 15 = .ok (.iconst 0, 1) := by decide +kernel
theorem dX4_calls_16 : decode cX4_calls 16 = .ok (.ireturn, 1) := by decide +kernel
theorem dX4_calls_17 : decode cX4_calls 17 = .ok (.aload_n 0, 1) := by decide +kernel
theorem dX4_calls_18 : decode cX4_calls 18 = .ok (.getfield 50, 3) := by decide +kernel
theorem dX4_calls_21 : decode cX4_calls 21 = .ok (.iconst 1, 1) := by decide +kernel
theorem dX4_calls_22 : decode cX4_calls 22 = .ok (.iadd, 1) := by decide +kernel
theorem dX4_calls_23 : decode cX4_calls 23 = .ok (.bipush 8, 2) := by decide +kernel
theorem dX4_calls_25 : decode cX4_calls 25 = .ok (.imul, 1) := by decide +kernel
theorem dX4_calls_26 : decode cX4_calls 26 = .ok (.istore_n 2, 1) := by decide +kernel
theorem dX4_calls_27 : decode cX4_calls 27 = .ok (.aload_n 1, 1) := by decide +kernel
theorem dX4_calls_28 : decode cX4_calls 28 = .ok (.getfield 226, 3) := by decide +kernel
theorem dX4_calls_31 : decode cX4_calls 31 = .ok (.iconst 1, 1) := by decide +kernel
theorem dX4_calls_32 : decode cX4_calls 32 = .ok (.isub, 1) := by decide +kernel
theorem dX4_calls_33 : decode cX4_calls 33 = .ok (.istore_n 3, 1) := by decide +kernel
theorem dX4_calls_34 : decode cX4_calls 34 = .ok (.iload_n 3, 1) := by decide +kernel
theorem dX4_calls_35 : decode cX4_calls 35 = .ok (.ifCond .lt 21, 3) := by decide +kernel
theorem dX4_calls_38 : decode cX4_calls 38 = .ok (.aload_n 0, 1) := by decide +kernel
theorem dX4_calls_39 : decode cX4_calls 39 = .ok (.getfield 35, 3) := by decide +kernel
theorem dX4_calls_42 : decode cX4_calls 42 = .ok (.iload_n 2, 1) := by decide +kernel
theorem dX4_calls_43 : decode cX4_calls 43 = .ok (.iload_n 3, 1) := by decide +kernel
theorem dX4_calls_44 : decode cX4_calls 44 = .ok (.iadd, 1) := by decide +kernel
theorem dX4_calls_45 : decode cX4_calls 45 = .ok (.aload_n 0, 1) := by decide +kernel
theorem dX4_calls_46 : decode cX4_calls 46 = .ok (.invokevirtual 116, 3) := by decide +kernel
theorem dX4_calls_49 : decode cX4_calls 49 = .ok (.lastore, 1) := by decide +kernel
theorem dX4_calls_50 : decode cX4_calls 50 = .ok (.iinc 3 (-1), 3) := by decide +kernel
theorem dX4_calls_53 : decode cX4_calls 53 = .ok (.goto (-19), 3) := by decide +kernel
theorem dX4_calls_56 : decode cX4_calls 56 = .ok (.aload_n 0, 1) := by decide +kernel
theorem dX4_calls_57 : decode cX4_calls 57 = .ok (.dup, 1) := by decide +kernel
theorem dX4_calls_58 : decode cX4_calls 58 = .ok (.getfield 50, 3) := by decide +kernel
theorem dX4_calls_61 : decode cX4_calls 61 = .ok (.iconst 1, 1) := by decide +kernel
theorem dX4_calls_62 : decode cX4_calls 62 = .ok (.iadd, 1) := by decide +kernel
theorem dX4_calls_63 : decode cX4_calls 63 = .ok (.putfield 50, 3) := by decide +kernel
theorem dX4_calls_66 : decode cX4_calls 66 = .ok (.aload_n 0, 1) := by decide +kernel
theorem dX4_calls_67 : decode cX4_calls 67 = .ok (.aload_n 1, 1) := by decide +kernel
theorem dX4_calls_68 : decode cX4_calls 68 = .ok (.invokevirtual 53, 3) := by decide +kernel
theorem dX4_calls_71 : decode cX4_calls 71 = .ok (.iconst (-1), 1) := by decide +kernel
theorem dX4_calls_72 : decode cX4_calls 72 = .ok (.ireturn, 1) := by decide +kernel
