theorem dX2_init_0 : decode cX2_init 0 = .ok (.aload_n 0, 1) := by decide +kernel
theorem dX2_init_1 : decode cX2_init 1 = .ok (.invokespecial 3, 3) := by decide +kernel
theorem dX2_init_4 : decode cX2_init 4 = .ok (.aload_n 0, 1) := by decide +kernel
theorem dX2_init_5 : decode cX2_init 5 = .ok (.bipush 40, 2) := by decide +kernel
theorem dX2_init_7 : decode cX2_init 7 = .ok (.anewarray 11, 3) := by decide +kernel
theorem dX2_init_10 : decode cX2_init 10 = .ok (.putfield 13, 3) := by decide +kernel
theorem dX2_init_13 : decode cX2_init 13 = .ok (.aload_n 0, 1) := by decide +kernel
theorem dX2_init_14 : decode cX2_init 14 = .ok (.new 11, 3) := by decide +kernel
theorem dX2_init_17 : decode cX2_init 17 = .ok (.dup, 1) := by decide +kernel
theorem dX2_init_18 : decode cX2_init 18 = .ok (.invokespecial 19, 3) := by decide +kernel
theorem dX2_init_21 : decode cX2_init 21 = .ok (.putfield 20, 3) := by decide +kernel
theorem dX2_init_24 : decode cX2_init 24 = .ok (.aload_n 0, 1) := by decide +kernel
theorem dX2_init_25 : decode cX2_init 25 = .ok (.new 24, 3) := by decide +kernel
theorem dX2_init_28 : decode cX2_init 28 = .ok (.dup, 1) := by decide +kernel
theorem dX2_init_29 : decode cX2_init 29 = .ok (.invokespecial 26, 3) := by decide +kernel
theorem dX2_init_32 : decode cX2_init 32 = .ok (.putfield 27, 3) := by decide +kernel
theorem dX2_init_35 : decode cX2_init 35 = .ok (.iconst 0, 1) := by decide +kernel
theorem dX2_init_36 : decode cX2_init 36 = .ok (.istore_n 1, 1) := by decide +kernel
theorem dX2_init_37 : decode cX2_init 37 = .ok (.iload_n 1, 1) := by decide +kernel
theorem dX2_init_38 : decode cX2_init 38 = .ok (.bipush 40, 2) := by decide +kernel
theorem dX2_init_40 : decode cX2_init 40 = .ok (.if_icmp .ge 22, 3) := by decide +kernel
theorem dX2_init_43 : decode cX2_init 43 = .ok (.aload_n 0, 1) := by decide +kernel
theorem dX2_init_44 : decode cX2_init 44 = .ok (.getfield 13, 3) := by decide +kernel
theorem dX2_init_47 : decode cX2_init 47 = .ok (.iload_n 1, 1) := by decide +kernel
theorem dX2_init_48 : decode cX2_init 48 = .ok (.new 11, 3) := by decide +kernel
theorem dX2_init_51 : decode cX2_init 51 = .ok (.dup, 1) := by decide +kernel
theorem dX2_init_52 : decode cX2_init 52 = .ok (.invokespecial 19, 3) := by decide +kernel
theorem dX2_init_55 : decode cX2_init 55 = .ok (.aastore, 1) := by decide +kernel
theorem dX2_init_56 : decode cX2_init 56 = .ok (.iinc 1 1, 3) := by decide +kernel
theorem dX2_init_59 : decode cX2_init 59 = .ok (.goto (-22), 3) := by decide +kernel
theorem dX2_init_62 : decode cX2_init 62 = .ok (.return_, 1) := by decide +kernel
theorem dX2_kindAhead_0 : decode cX2_kindAhead 0 = .ok (.iload_n 1, 1) := by decide +kernel
theorem dX2_kindAhead_1 : decode cX2_kindAhead 1 = .ok (.ifCond .lt 30, 3) := by decide +kernel
theorem dX2_kindAhead_4 : decode cX2_kindAhead 4 = .ok (.iload_n 1, 1) := by decide +kernel
theorem dX2_kindAhead_5 : decode cX2_kindAhead 5 = .ok (.aload_n 0, 1) := by decide +kernel
theorem dX2_kindAhead_6 : decode cX2_kindAhead 6 = .ok (.getfield 31, 3) := by decide +kernel
theorem dX2_kindAhead_9 : decode cX2_kindAhead 9 = .ok (.if_icmp .ge 22, 3) := by decide +kernel
theorem dX2_kindAhead_12 : decode cX2_kindAhead 12 = .ok (.iload_n 1, 1) := by decide +kernel
theorem dX2_kindAhead_13 : decode cX2_kindAhead 13 = .ok (.bipush 40, 2) := by decide +kernel
theorem dX2_kindAhead_15 : decode cX2_kindAhead 15 = .ok (.if_icmp .ge 16, 3) := by decide +kernel
theorem dX2_kindAhead_18 : decode cX2_kindAhead 18 = .ok (.aload_n 0, 1) := by decide +kernel
theorem dX2_kindAhead_19 : decode cX2_kindAhead 19 = .ok (.getfield 13, 3) := by decide +kernel
theorem dX2_kindAhead_22 : decode cX2_kindAhead 22 = .ok (.iload_n 1, 1) := by decide +kernel
theorem dX2_kindAhead_23 : decode cX2_kindAhead 23 = .ok (.aaload, 1) := by decide +kernel
theorem dX2_kindAhead_24 : decode cX2_kindAhead 24 = .ok (.iload_n 2, 1) := by decide +kernel
theorem dX2_kindAhead_25 : decode cX2_kindAhead 25 = .ok (.invokevirtual 35, 3) := by decide +kernel
theorem dX2_kindAhead_28 : decode cX2_kindAhead 28 = .ok (.ifCond .ne 6, 3) := by decide +kernel
theorem dX2_kindAhead_31 : decode cX2_kindAhead 31 = .ok (.ldc 39, 2) := by decide +kernel
theorem dX2_kindAhead_33 : decode cX2_kindAhead 33 = .ok (.ireturn, 1) := by decide +kernel
theorem dX2_kindAhead_34 : decode cX2_kindAhead 34 = .ok (.aload_n 0, 1) := by decide +kernel
theorem dX2_kindAhead_35 : decode cX2_kindAhead 35 = .ok (.getfield 13, 3) := by decide +kernel
theorem dX2_kindAhead_38 : decode cX2_kindAhead 38 = .ok (.iload_n 1, 1) := by decide +kernel
theorem dX2_kindAhead_39 : decode cX2_kindAhead 39 = .ok (.aaload, 1) := by decide +kernel
theorem dX2_kindAhead_40 : decode cX2_kindAhead 40 = .ok (.getfield 40, 3) := by decide +kernel
theorem dX2_kindAhead_43 : decode cX2_kindAhead 43 = .ok (.iload_n 2, 1) := by decide +kernel
theorem dX2_kindAhead_44 : decode cX2_kindAhead 44 = .ok (.iaload, 1) := by decide +kernel
theorem dX2_kindAhead_45 : decode cX2_kindAhead 45 = .ok (.ireturn, 1) := by decide +kernel
theorem dX2_forget_0 : decode cX2_forget 0 = .ok (.aload_n 0, 1) := by decide +kernel
theorem dX2_forget_1 : decode cX2_forget 1 = .ok (.aload_n 1, 1) := by decide +kernel
theorem dX2_forget_2 : decode cX2_forget 2 = .ok (.getfield 44, 3) := by decide +kernel
theorem dX2_forget_5 : decode cX2_forget 5 = .ok (.putfield 31, 3) := by decide +kernel
theorem dX2_forget_8 : decode cX2_forget 8 = .ok (.iconst 0, 1) := by decide +kernel
theorem dX2_forget_9 : decode cX2_forget 9 = .ok (.istore_n 2, 1) := by decide +kernel
theorem dX2_forget_10 : decode cX2_forget 10 = .ok (.iload_n 2, 1) := by decide +kernel
theorem dX2_forget_11 : decode cX2_forget 11 = .ok (.bipush 40, 2) := by decide +kernel
theorem dX2_forget_13 : decode cX2_forget 13 = .ok (.if_icmp .ge 19, 3) := by decide +kernel
theorem dX2_forget_16 : decode cX2_forget 16 = .ok (.aload_n 0, 1) := by decide +kernel
theorem dX2_forget_17 : decode cX2_forget 17 = .ok (.getfield 13, 3) := by decide +kernel
theorem dX2_forget_20 : decode cX2_forget 20 = .ok (.iload_n 2, 1) := by decide +kernel
theorem dX2_forget_21 : decode cX2_forget 21 = .ok (.aaload, 1) := by decide +kernel
theorem dX2_forget_22 : decode cX2_forget 22 = .ok (.iconst (-1), 1) := by decide +kernel
theorem dX2_forget_23 : decode cX2_forget 23 = .ok (.putfield 47, 3) := by decide +kernel
theorem dX2_forget_26 : decode cX2_forget 26 = .ok (.iinc 2 1, 3) := by decide +kernel
theorem dX2_forget_29 : decode cX2_forget 29 = .ok (.goto (-19), 3) := by decide +kernel
theorem dX2_forget_32 : decode cX2_forget 32 = .ok (.return_, 1) := by decide +kernel
theorem dX2_byFrames_0 : decode cX2_byFrames 0 = .ok (.aload_n 0, 1) := by decide +kernel
theorem dX2_byFrames_1 : decode cX2_byFrames 1 = .ok (.aload_n 2, 1) := by decide +kernel
theorem dX2_byFrames_2 : decode cX2_byFrames 2 = .ok (.invokevirtual 50, 3) := by decide +kernel
theorem dX2_byFrames_5 : decode cX2_byFrames 5 = .ok (.aload_n 0, 1) := by decide +kernel
theorem dX2_byFrames_6 : decode cX2_byFrames 6 = .ok (.getfield 27, 3) := by decide +kernel
theorem dX2_byFrames_9 : decode cX2_byFrames 9 = .ok (.getfield 54, 3) := by decide +kernel
theorem dX2_byFrames_12 : decode cX2_byFrames 12 = .ok (.astore_n 3, 1) := by decide +kernel
theorem dX2_byFrames_13 : decode cX2_byFrames 13 = .ok (.aload_n 3, 1) := by decide +kernel
theorem dX2_byFrames_14 : decode cX2_byFrames 14 = .ok (.aload_n 2, 1) := by decide +kernel
theorem dX2_byFrames_15 : decode cX2_byFrames 15 = .ok (.getfield 57, 3) := by decide +kernel
theorem dX2_byFrames_18 : decode cX2_byFrames 18 = .ok (.invokevirtual 60, 3) := by decide +kernel
theorem dX2_byFrames_21 : decode cX2_byFrames 21 = .ok (.iconst 1, 1) := by decide +kernel
theorem dX2_byFrames_22 : decode cX2_byFrames 22 = .ok (.istore 4, 2) := by decide +kernel
theorem dX2_byFrames_24 : decode cX2_byFrames 24 = .ok (.iconst 0, 1) := by decide +kernel
theorem dX2_byFrames_25 : decode cX2_byFrames 25 = .ok (.istore 5, 2) := by decide +kernel
theorem dX2_byFrames_27 : decode cX2_byFrames 27 = .ok (.iload 5, 2) := by decide +kernel
theorem dX2_byFrames_29 : decode cX2_byFrames 29 = .ok (.aload_n 2, 1) := by decide +kernel
theorem dX2_byFrames_30 : decode cX2_byFrames 30 = .ok (.getfield 44, 3) := by decide +kernel
theorem dX2_byFrames_33 : decode cX2_byFrames 33 = .ok (.if_icmp .ge 124, 3) := by decide +kernel
theorem dX2_byFrames_36 : decode cX2_byFrames 36 = .ok (.iload 5, 2) := by decide +kernel
theorem dX2_byFrames_38 : decode cX2_byFrames 38 = .ok (.bipush 40, 2) := by decide +kernel
theorem dX2_byFrames_40 : decode cX2_byFrames 40 = .ok (.if_icmp .ge 117, 3) := by decide +kernel
theorem dX2_byFrames_43 : decode cX2_byFrames 43 = .ok (.aload_n 2, 1) := by decide +kernel
theorem dX2_byFrames_44 : decode cX2_byFrames 44 = .ok (.iload 5, 2) := by decide +kernel
theorem dX2_byFrames_46 : decode cX2_byFrames 46 = .ok (.invokevirtual 64, 3) := by decide +kernel
theorem dX2_byFrames_49 : decode cX2_byFrames 49 = .ok (.astore 6, 2) := by decide +kernel
theorem dX2_byFrames_51 : decode cX2_byFrames 51 = .ok (.aload 6, 2) := by decide +kernel
theorem dX2_byFrames_53 : decode cX2_byFrames 53 = .ok (.ifnonnull 11, 3) := by decide +kernel
theorem dX2_byFrames_56 : decode cX2_byFrames 56 = .ok (.iload 4, 2) := by decide +kernel
theorem dX2_byFrames_58 : decode cX2_byFrames 58 = .ok (.ifCond .ne 25, 3) := by decide +kernel
theorem dX2_byFrames_61 : decode cX2_byFrames 61 = .ok (.goto 17, 3) := by decide +kernel
theorem dX2_byFrames_64 : decode cX2_byFrames 64 = .ok (.iload 4, 2) := by decide +kernel
theorem dX2_byFrames_66 : decode cX2_byFrames 66 = .ok (.ifCond .eq 17, 3) := by decide +kernel
theorem dX2_byFrames_69 : decode cX2_byFrames 69 = .ok (.aload_n 3, 1) := by decide +kernel
theorem dX2_byFrames_70 : decode cX2_byFrames 70 = .ok (.aload 6, 2) := by decide +kernel
theorem dX2_byFrames_72 : decode cX2_byFrames 72 = .ok (.invokevirtual 68, 3) := by decide +kernel
theorem dX2_byFrames_75 : decode cX2_byFrames 75 = .ok (.ifCond .ne 8, 3) := by decide +kernel
theorem dX2_byFrames_78 : decode cX2_byFrames 78 = .ok (.iconst 1, 1) := by decide +kernel
theorem dX2_byFrames_79 : decode cX2_byFrames 79 = .ok (.iload 5, 2) := by decide +kernel
theorem dX2_byFrames_81 : decode cX2_byFrames 81 = .ok (.iadd, 1) := by decide +kernel
theorem dX2_byFrames_82 : decode cX2_byFrames 82 = .ok (.ireturn, 1) := by decide +kernel
theorem dX2_byFrames_83 : decode cX2_byFrames 83 = .ok (.aload 6, 2) := by decide +kernel
theorem dX2_byFrames_85 : decode cX2_byFrames 85 = .ok (.ifnull 9, 3) := by decide +kernel
theorem dX2_byFrames_88 : decode cX2_byFrames 88 = .ok (.aload_n 3, 1) := by decide +kernel
theorem dX2_byFrames_89 : decode cX2_byFrames 89 = .ok (.aload 6, 2) := by decide +kernel
theorem dX2_byFrames_91 : decode cX2_byFrames 91 = .ok (.invokevirtual 72, 3) := by decide +kernel
theorem dX2_byFrames_94 : decode cX2_byFrames 94 = .ok (.aload_n 0, 1) := by decide +kernel
theorem dX2_byFrames_95 : decode cX2_byFrames 95 = .ok (.getfield 13, 3) := by decide +kernel
theorem dX2_byFrames_98 : decode cX2_byFrames 98 = .ok (.iload 5, 2) := by decide +kernel
theorem dX2_byFrames_100 : decode cX2_byFrames 100 = .ok (.aaload, 1) := by decide +kernel
theorem dX2_byFrames_101 : decode cX2_byFrames 101 = .ok (.aload_n 3, 1) := by decide +kernel
theorem dX2_byFrames_102 : decode cX2_byFrames 102 = .ok (.invokevirtual 72, 3) := by decide +kernel
theorem dX2_byFrames_105 : decode cX2_byFrames 105 = .ok (.aload_n 0, 1) := by decide +kernel
theorem dX2_byFrames_106 : decode cX2_byFrames 106 = .ok (.getfield 27, 3) := by decide +kernel
theorem dX2_byFrames_109 : decode cX2_byFrames 109 = .ok (.aload_n 1, 1) := by decide +kernel
theorem dX2_byFrames_110 : decode cX2_byFrames 110 = .ok (.aload_n 2, 1) := by decide +kernel
theorem dX2_byFrames_111 : decode cX2_byFrames 111 = .ok (.iload 5, 2) := by decide +kernel
theorem dX2_byFrames_113 : decode cX2_byFrames 113 = .ok (.invokevirtual 76, 3) := by decide +kernel
theorem dX2_byFrames_116 : decode cX2_byFrames 116 = .ok (.ifCond .eq 21, 3) := by decide +kernel
theorem dX2_byFrames_119 : decode cX2_byFrames 119 = .ok (.aload_n 0, 1) := by decide +kernel
theorem dX2_byFrames_120 : decode cX2_byFrames 120 = .ok (.aload_n 2, 1) := by decide +kernel
theorem dX2_byFrames_121 : decode cX2_byFrames 121 = .ok (.invokevirtual 80, 3) := by decide +kernel
theorem dX2_byFrames_124 : decode cX2_byFrames 124 = .ok (.ifCond .eq 13, 3) := by decide +kernel
theorem dX2_byFrames_127 : decode cX2_byFrames 127 = .ok (.aload_n 0, 1) := by decide +kernel
theorem dX2_byFrames_128 : decode cX2_byFrames 128 = .ok (.aload_n 2, 1) := by decide +kernel
theorem dX2_byFrames_129 : decode cX2_byFrames 129 = .ok (.iload 5, 2) := by decide +kernel
theorem dX2_byFrames_131 : decode cX2_byFrames 131 = .ok (.invokevirtual 84, 3) := by decide +kernel
theorem dX2_byFrames_134 : decode cX2_byFrames 134 = .ok (.ifCond .ne 8, 3) := by decide +kernel
theorem dX2_byFrames_137 : decode cX2_byFrames 137 = .ok (.iconst 1, 1) := by decide +kernel
theorem dX2_byFrames_138 : decode cX2_byFrames 138 = .ok (.iload 5, 2) := by decide +kernel
theorem dX2_byFrames_140 : decode cX2_byFrames 140 = .ok (.iadd, 1) := by decide +kernel
theorem dX2_byFrames_141 : decode cX2_byFrames 141 = .ok (.ireturn, 1) := by decide +kernel
theorem dX2_byFrames_142 : decode cX2_byFrames 142 = .ok (.aload_n 0, 1) := by decide +kernel
theorem dX2_byFrames_143 : decode cX2_byFrames 143 = .ok (.getfield 27, 3) := by decide +kernel
theorem dX2_byFrames_146 : decode cX2_byFrames 146 = .ok (.getfield 88, 3) := by decide +kernel
theorem dX2_byFrames_149 : decode cX2_byFrames 149 = .ok (.istore 4, 2) := by decide +kernel
theorem dX2_byFrames_151 : decode cX2_byFrames 151 = .ok (.iinc 5 1, 3) := by decide +kernel
theorem dX2_byFrames_154 : decode cX2_byFrames 154 = .ok (.goto (-127), 3) := by decide +kernel
theorem dX2_byFrames_157 : decode cX2_byFrames 157 = .ok (.iload 4, 2) := by decide +kernel
theorem dX2_byFrames_159 : decode cX2_byFrames 159 = .ok (.ifCond .eq 12, 3) := by decide +kernel
theorem dX2_byFrames_162 : decode cX2_byFrames 162 = .ok (.iconst 1, 1) := by decide +kernel
theorem dX2_byFrames_163 : decode cX2_byFrames 163 = .ok (.aload_n 2, 1) := by decide +kernel
theorem dX2_byFrames_164 : decode cX2_byFrames 164 = .ok (.getfield 44, 3) := by decide +kernel
theorem dX2_byFrames_167 : decode cX2_byFrames 167 = .ok (.iadd, 1) := by decide +kernel
theorem dX2_byFrames_168 : decode cX2_byFrames 168 = .ok (.goto 4, 3) := by decide +kernel
theorem dX2_byFrames_171 : decode cX2_byFrames 171 = .ok (.iconst 0, 1) := by decide +kernel
theorem dX2_byFrames_172 : decode cX2_byFrames 172 = .ok (.ireturn, 1) := by decide +kernel
theorem dX2_leadsToFrame_0 : decode cX2_leadsToFrame 0 = .ok (.aload_n 0, 1) := by decide +kernel
theorem dX2_leadsToFrame_1 : decode cX2_leadsToFrame 1 = .ok (.getfield 27, 3) := by decide +kernel
theorem dX2_leadsToFrame_4 : decode cX2_leadsToFrame 4 = .ok (.getfield 92, 3) := by decide +kernel
theorem dX2_leadsToFrame_7 : decode cX2_leadsToFrame 7 = .ok (.ifCond .ge 5, 3) := by decide +kernel
theorem dX2_leadsToFrame_10 : decode cX2_leadsToFrame 10 = .ok (.iconst 1, 1) := by decide +kernel
theorem dX2_leadsToFrame_11 : decode cX2_leadsToFrame 11 = .ok (.ireturn, 1) := by decide +kernel
theorem dX2_leadsToFrame_12 : decode cX2_leadsToFrame 12 = .ok (.aload_n 1, 1) := by decide +kernel
theorem dX2_leadsToFrame_13 : decode cX2_leadsToFrame 13 = .ok (.aload_n 0, 1) := by decide +kernel
theorem dX2_leadsToFrame_14 : decode cX2_leadsToFrame 14 = .ok (.getfield 27, 3) := by decide +kernel
theorem dX2_leadsToFrame_17 : decode cX2_leadsToFrame 17 = .ok (.getfield 92, 3) := by decide +kernel
theorem dX2_leadsToFrame_20 : decode cX2_leadsToFrame 20 = .ok (.invokevirtual 64, 3) := by decide +kernel
theorem dX2_leadsToFrame_23 : decode cX2_leadsToFrame 23 = .ok (.astore_n 2, 1) := by decide +kernel
theorem dX2_leadsToFrame_24 : decode cX2_leadsToFrame 24 = .ok (.aload_n 2, 1) := by decide +kernel
theorem dX2_leadsToFrame_25 : decode cX2_leadsToFrame 25 = .ok (.ifnull 21, 3) := by decide +kernel
theorem dX2_leadsToFrame_28 : decode cX2_leadsToFrame 28 = .ok (.aload_n 0, 1) := by decide +kernel
theorem dX2_leadsToFrame_29 : decode cX2_leadsToFrame 29 = .ok (.getfield 27, 3) := by decide +kernel
theorem dX2_leadsToFrame_32 : decode cX2_leadsToFrame 32 = .ok (.getfield 54, 3) := by decide +kernel
theorem dX2_leadsToFrame_35 : decode cX2_leadsToFrame 35 = .ok (.aload_n 2, 1) := by decide +kernel
theorem dX2_leadsToFrame_36 : decode cX2_leadsToFrame 36 = .ok (.invokevirtual 68, 3) := by decide +kernel
theorem dX2_leadsToFrame_39 : decode cX2_leadsToFrame 39 = .ok (.ifCond .eq 7, 3) := by decide +kernel
theorem dX2_leadsToFrame_42 : decode cX2_leadsToFrame 42 = .ok (.iconst 1, 1) := by decide +kernel
theorem dX2_leadsToFrame_43 : decode cX2_leadsToFrame 43 = .ok (.goto 4, 3) := by decide +kernel
theorem dX2_leadsToFrame_46 : decode cX2_leadsToFrame 46 = .ok (.iconst 0, 1) := by decide +kernel
theorem dX2_leadsToFrame_47 : decode cX2_leadsToFrame 47 = .ok (.ireturn, 1) := by decide +kernel
theorem dX2_handlersFit_0 : decode cX2_handlersFit 0 = .ok (.aload_n 0, 1) := by decide +kernel
theorem dX2_handlersFit_1 : decode cX2_handlersFit 1 = .ok (.getfield 20, 3) := by decide +kernel
theorem dX2_handlersFit_4 : decode cX2_handlersFit 4 = .ok (.aload_n 0, 1) := by decide +kernel
theorem dX2_handlersFit_5 : decode cX2_handlersFit 5 = .ok (.getfield 13, 3) := by decide +kernel
theorem dX2_handlersFit_8 : decode cX2_handlersFit 8 = .ok (.iload_n 2, 1) := by decide +kernel
theorem dX2_handlersFit_9 : decode cX2_handlersFit 9 = .ok (.aaload, 1) := by decide +kernel
theorem dX2_handlersFit_10 : decode cX2_handlersFit 10 = .ok (.invokevirtual 95, 3) := by decide +kernel
theorem dX2_handlersFit_13 : decode cX2_handlersFit 13 = .ok (.iconst 0, 1) := by decide +kernel
theorem dX2_handlersFit_14 : decode cX2_handlersFit 14 = .ok (.istore_n 3, 1) := by decide +kernel
theorem dX2_handlersFit_15 : decode cX2_handlersFit 15 = .ok (.iload_n 3, 1) := by decide +kernel
theorem dX2_handlersFit_16 : decode cX2_handlersFit 16 = .ok (.aload_n 1, 1) := by decide +kernel
theorem dX2_handlersFit_17 : decode cX2_handlersFit 17 = .ok (.getfield 98, 3) := by decide +kernel
theorem dX2_handlersFit_20 : decode cX2_handlersFit 20 = .ok (.if_icmp .ge 63, 3) := by decide +kernel
theorem dX2_handlersFit_23 : decode cX2_handlersFit 23 = .ok (.aload_n 1, 1) := by decide +kernel
theorem dX2_handlersFit_24 : decode cX2_handlersFit 24 = .ok (.iload_n 3, 1) := by decide +kernel
theorem dX2_handlersFit_25 : decode cX2_handlersFit 25 = .ok (.iload_n 2, 1) := by decide +kernel
theorem dX2_handlersFit_26 : decode cX2_handlersFit 26 = .ok (.invokevirtual 101, 3) := by decide +kernel
theorem dX2_handlersFit_29 : decode cX2_handlersFit 29 = .ok (.ifCond .eq 48, 3) := by decide +kernel
theorem dX2_handlersFit_32 : decode cX2_handlersFit 32 = .ok (.aload_n 1, 1) := by decide +kernel
theorem dX2_handlersFit_33 : decode cX2_handlersFit 33 = .ok (.aload_n 1, 1) := by decide +kernel
theorem dX2_handlersFit_34 : decode cX2_handlersFit 34 = .ok (.getfield 105, 3) := by decide +kernel
theorem dX2_handlersFit_37 : decode cX2_handlersFit 37 = .ok (.iload_n 3, 1) := by decide +kernel
theorem dX2_handlersFit_38 : decode cX2_handlersFit 38 = .ok (.iaload, 1) := by decide +kernel
theorem dX2_handlersFit_39 : decode cX2_handlersFit 39 = .ok (.invokevirtual 64, 3) := by decide +kernel
theorem dX2_handlersFit_42 : decode cX2_handlersFit 42 = .ok (.astore 4, 2) := by decide +kernel
theorem dX2_handlersFit_44 : decode cX2_handlersFit 44 = .ok (.aload 4, 2) := by decide +kernel
theorem dX2_handlersFit_46 : decode cX2_handlersFit 46 = .ok (.ifnull 29, 3) := by decide +kernel
theorem dX2_handlersFit_49 : decode cX2_handlersFit 49 = .ok (.aload_n 1, 1) := by decide +kernel
theorem dX2_handlersFit_50 : decode cX2_handlersFit 50 = .ok (.aload_n 1, 1) := by decide +kernel
theorem dX2_handlersFit_51 : decode cX2_handlersFit 51 = .ok (.getfield 105, 3) := by decide +kernel
theorem dX2_handlersFit_54 : decode cX2_handlersFit 54 = .ok (.iload_n 3, 1) := by decide +kernel
theorem dX2_handlersFit_55 : decode cX2_handlersFit 55 = .ok (.iaload, 1) := by decide +kernel
theorem dX2_handlersFit_56 : decode cX2_handlersFit 56 = .ok (.i2l, 1) := by decide +kernel
theorem dX2_handlersFit_57 : decode cX2_handlersFit 57 = .ok (.invokevirtual 108, 3) := by decide +kernel
theorem dX2_handlersFit_60 : decode cX2_handlersFit 60 = .ok (.ifCond .eq 15, 3) := by decide +kernel
theorem dX2_handlersFit_63 : decode cX2_handlersFit 63 = .ok (.aload_n 0, 1) := by decide +kernel
theorem dX2_handlersFit_64 : decode cX2_handlersFit 64 = .ok (.getfield 20, 3) := by decide +kernel
theorem dX2_handlersFit_67 : decode cX2_handlersFit 67 = .ok (.aload 4, 2) := by decide +kernel
theorem dX2_handlersFit_69 : decode cX2_handlersFit 69 = .ok (.invokevirtual 68, 3) := by decide +kernel
theorem dX2_handlersFit_72 : decode cX2_handlersFit 72 = .ok (.ifCond .ne 5, 3) := by decide +kernel
theorem dX2_handlersFit_75 : decode cX2_handlersFit 75 = .ok (.iconst 0, 1) := by decide +kernel
theorem dX2_handlersFit_76 : decode cX2_handlersFit 76 = .ok (.ireturn, 1) := by decide +kernel
theorem dX2_handlersFit_77 : decode cX2_handlersFit 77 = .ok (.iinc 3 1, 3) := by decide +kernel
theorem dX2_handlersFit_80 : decode cX2_handlersFit 80 = .ok (.goto (-65), 3) := by decide +kernel
theorem dX2_handlersFit_83 : decode cX2_handlersFit 83 = .ok (.iconst 1, 1) := by decide +kernel
theorem dX2_handlersFit_84 : decode cX2_handlersFit 84 = .ok (.ireturn, 1) := by decide +kernel
theorem dX2_byJoining_0 : decode cX2_byJoining 0 = .ok (.aload_n 0, 1) := by decide +kernel
theorem dX2_byJoining_1 : decode cX2_byJoining 1 = .ok (.aload_n 2, 1) := by decide +kernel
theorem dX2_byJoining_2 : decode cX2_byJoining 2 = .ok (.invokevirtual 50, 3) := by decide +kernel
theorem dX2_byJoining_5 : decode cX2_byJoining 5 = .ok (.aload_n 0, 1) := by decide +kernel
theorem dX2_byJoining_6 : decode cX2_byJoining 6 = .ok (.iconst 0, 1) := by decide +kernel
theorem dX2_byJoining_7 : decode cX2_byJoining 7 = .ok (.putfield 112, 3) := by decide +kernel
theorem dX2_byJoining_10 : decode cX2_byJoining 10 = .ok (.aload_n 0, 1) := by decide +kernel
theorem dX2_byJoining_11 : decode cX2_byJoining 11 = .ok (.getfield 27, 3) := by decide +kernel
theorem dX2_byJoining_14 : decode cX2_byJoining 14 = .ok (.getfield 54, 3) := by decide +kernel
theorem dX2_byJoining_17 : decode cX2_byJoining 17 = .ok (.aload_n 2, 1) := by decide +kernel
theorem dX2_byJoining_18 : decode cX2_byJoining 18 = .ok (.getfield 57, 3) := by decide +kernel
theorem dX2_byJoining_21 : decode cX2_byJoining 21 = .ok (.invokevirtual 60, 3) := by decide +kernel
theorem dX2_byJoining_24 : decode cX2_byJoining 24 = .ok (.aload_n 0, 1) := by decide +kernel
theorem dX2_byJoining_25 : decode cX2_byJoining 25 = .ok (.aload_n 2, 1) := by decide +kernel
theorem dX2_byJoining_26 : decode cX2_byJoining 26 = .ok (.iconst 0, 1) := by decide +kernel
theorem dX2_byJoining_27 : decode cX2_byJoining 27 = .ok (.aload_n 0, 1) := by decide +kernel
theorem dX2_byJoining_28 : decode cX2_byJoining 28 = .ok (.getfield 27, 3) := by decide +kernel
theorem dX2_byJoining_31 : decode cX2_byJoining 31 = .ok (.getfield 54, 3) := by decide +kernel
theorem dX2_byJoining_34 : decode cX2_byJoining 34 = .ok (.invokevirtual 115, 3) := by decide +kernel
theorem dX2_byJoining_37 : decode cX2_byJoining 37 = .ok (.ifCond .ne 5, 3) := by decide +kernel
theorem dX2_byJoining_40 : decode cX2_byJoining 40 = .ok (.iconst 1, 1) := by decide +kernel
theorem dX2_byJoining_41 : decode cX2_byJoining 41 = .ok (.ireturn, 1) := by decide +kernel
theorem dX2_byJoining_42 : decode cX2_byJoining 42 = .ok (.aload_n 0, 1) := by decide +kernel
theorem dX2_byJoining_43 : decode cX2_byJoining 43 = .ok (.iconst 1, 1) := by decide +kernel
theorem dX2_byJoining_44 : decode cX2_byJoining 44 = .ok (.putfield 119, 3) := by decide +kernel
theorem dX2_byJoining_47 : decode cX2_byJoining 47 = .ok (.aload_n 0, 1) := by decide +kernel
theorem dX2_byJoining_48 : decode cX2_byJoining 48 = .ok (.getfield 119, 3) := by decide +kernel
theorem dX2_byJoining_51 : decode cX2_byJoining 51 = .ok (.ifCond .eq 78, 3) := by decide +kernel
theorem dX2_byJoining_54 : decode cX2_byJoining 54 = .ok (.aload_n 0, 1) := by decide +kernel
theorem dX2_byJoining_55 : decode cX2_byJoining 55 = .ok (.getfield 112, 3) := by decide +kernel
theorem dX2_byJoining_58 : decode cX2_byJoining 58 = .ok (.ldc 122, 2) := by decide +kernel
theorem dX2_byJoining_60 : decode cX2_byJoining 60 = .ok (.if_icmp .ge 69, 3) := by decide +kernel
theorem dX2_byJoining_63 : decode cX2_byJoining 63 = .ok (.aload_n 0, 1) := by decide +kernel
theorem dX2_byJoining_64 : decode cX2_byJoining 64 = .ok (.iconst 0, 1) := by decide +kernel
theorem dX2_byJoining_65 : decode cX2_byJoining 65 = .ok (.putfield 119, 3) := by decide +kernel
theorem dX2_byJoining_68 : decode cX2_byJoining 68 = .ok (.aload_n 0, 1) := by decide +kernel
theorem dX2_byJoining_69 : decode cX2_byJoining 69 = .ok (.dup, 1) := by decide +kernel
theorem dX2_byJoining_70 : decode cX2_byJoining 70 = .ok (.getfield 112, 3) := by decide +kernel
theorem dX2_byJoining_73 : decode cX2_byJoining 73 = .ok (.iconst 1, 1) := by decide +kernel
theorem dX2_byJoining_74 : decode cX2_byJoining 74 = .ok (.iadd, 1) := by decide +kernel
theorem dX2_byJoining_75 : decode cX2_byJoining 75 = .ok (.putfield 112, 3) := by decide +kernel
theorem dX2_byJoining_78 : decode cX2_byJoining 78 = .ok (.iconst 0, 1) := by decide +kernel
theorem dX2_byJoining_79 : decode cX2_byJoining 79 = .ok (.istore_n 3, 1) := by decide +kernel
theorem dX2_byJoining_80 : decode cX2_byJoining 80 = .ok (.iload_n 3, 1) := by decide +kernel
theorem dX2_byJoining_81 : decode cX2_byJoining 81 = .ok (.aload_n 2, 1) := by decide +kernel
theorem dX2_byJoining_82 : decode cX2_byJoining 82 = .ok (.getfield 44, 3) := by decide +kernel
theorem dX2_byJoining_85 : decode cX2_byJoining 85 = .ok (.if_icmp .ge 41, 3) := by decide +kernel
theorem dX2_byJoining_88 : decode cX2_byJoining 88 = .ok (.iload_n 3, 1) := by decide +kernel
theorem dX2_byJoining_89 : decode cX2_byJoining 89 = .ok (.bipush 40, 2) := by decide +kernel
theorem dX2_byJoining_91 : decode cX2_byJoining 91 = .ok (.if_icmp .ge 35, 3) := by decide +kernel
theorem dX2_byJoining_94 : decode cX2_byJoining 94 = .ok (.aload_n 0, 1) := by decide +kernel
theorem dX2_byJoining_95 : decode cX2_byJoining 95 = .ok (.getfield 13, 3) := by decide +kernel
theorem dX2_byJoining_98 : decode cX2_byJoining 98 = .ok (.iload_n 3, 1) := by decide +kernel
theorem dX2_byJoining_99 : decode cX2_byJoining 99 = .ok (.aaload, 1) := by decide +kernel
theorem dX2_byJoining_100 : decode cX2_byJoining 100 = .ok (.getfield 47, 3) := by decide +kernel
theorem dX2_byJoining_103 : decode cX2_byJoining 103 = .ok (.ifCond .lt 17, 3) := by decide +kernel
theorem dX2_byJoining_106 : decode cX2_byJoining 106 = .ok (.aload_n 0, 1) := by decide +kernel
theorem dX2_byJoining_107 : decode cX2_byJoining 107 = .ok (.aload_n 1, 1) := by decide +kernel
theorem dX2_byJoining_108 : decode cX2_byJoining 108 = .ok (.aload_n 2, 1) := by decide +kernel
theorem dX2_byJoining_109 : decode cX2_byJoining 109 = .ok (.iload_n 3, 1) := by decide +kernel
theorem dX2_byJoining_110 : decode cX2_byJoining 110 = .ok (.invokevirtual 123, 3) := by decide +kernel
theorem dX2_byJoining_113 : decode cX2_byJoining 113 = .ok (.ifCond .ne 7, 3) := by decide +kernel
theorem dX2_byJoining_116 : decode cX2_byJoining 116 = .ok (.iconst 1, 1) := by decide +kernel
theorem dX2_byJoining_117 : decode cX2_byJoining 117 = .ok (.iload_n 3, 1) := by decide +kernel
theorem dX2_byJoining_118 : decode cX2_byJoining 118 = .ok (.iadd, 1) := by decide +kernel
theorem dX2_byJoining_119 : decode cX2_byJoining 119 = .ok (.ireturn, 1) := by decide +kernel
theorem dX2_byJoining_120 : decode cX2_byJoining 120 = .ok (.iinc 3 1, 3) := by decide +kernel
theorem dX2_byJoining_123 : decode cX2_byJoining 123 = .ok (.goto (-43), 3) := by decide +kernel
theorem dX2_byJoining_126 : decode cX2_byJoining 126 = .ok (.goto (-79), 3) := by decide +kernel
theorem dX2_byJoining_129 : decode cX2_byJoining 129 = .ok (.iconst 0, 1) := by decide +kernel
theorem dX2_byJoining_130 : decode cX2_byJoining 130 = .ok (.ireturn, 1) := by decide +kernel
theorem dX2_handsOn_0 : decode cX2_handsOn 0 = .ok (.aload_n 0, 1) := by decide +kernel
theorem dX2_handsOn_1 : decode cX2_handsOn 1 = .ok (.getfield 27, 3) := by decide +kernel
theorem dX2_handsOn_4 : decode cX2_handsOn 4 = .ok (.getfield 54, 3) := by decide +kernel
theorem dX2_handsOn_7 : decode cX2_handsOn 7 = .ok (.aload_n 0, 1) := by decide +kernel
theorem dX2_handsOn_8 : decode cX2_handsOn 8 = .ok (.getfield 13, 3) := by decide +kernel
theorem dX2_handsOn_11 : decode cX2_handsOn 11 = .ok (.iload_n 3, 1) := by decide +kernel
theorem dX2_handsOn_12 : decode cX2_handsOn 12 = .ok (.aaload, 1) := by decide +kernel
theorem dX2_handsOn_13 : decode cX2_handsOn 13 = .ok (.invokevirtual 72, 3) := by decide +kernel
theorem dX2_handsOn_16 : decode cX2_handsOn 16 = .ok (.aload_n 0, 1) := by decide +kernel
theorem dX2_handsOn_17 : decode cX2_handsOn 17 = .ok (.getfield 27, 3) := by decide +kernel
theorem dX2_handsOn_20 : decode cX2_handsOn 20 = .ok (.aload_n 1, 1) := by decide +kernel
theorem dX2_handsOn_21 : decode cX2_handsOn 21 = .ok (.aload_n 2, 1) := by decide +kernel
theorem dX2_handsOn_22 : decode cX2_handsOn 22 = .ok (.iload_n 3, 1) := by decide +kernel
theorem dX2_handsOn_23 : decode cX2_handsOn 23 = .ok (.invokevirtual 76, 3) := by decide +kernel
theorem dX2_handsOn_26 : decode cX2_handsOn 26 = .ok (.ifCond .ne 5, 3) := by decide +kernel
theorem dX2_handsOn_29 : decode cX2_handsOn 29 = .ok (.iconst 0, 1) := by decide +kernel
theorem dX2_handsOn_30 : decode cX2_handsOn 30 = .ok (.ireturn, 1) := by decide +kernel
theorem dX2_handsOn_31 : decode cX2_handsOn 31 = .ok (.aload_n 0, 1) := by decide +kernel
theorem dX2_handsOn_32 : decode cX2_handsOn 32 = .ok (.getfield 27, 3) := by decide +kernel
theorem dX2_handsOn_35 : decode cX2_handsOn 35 = .ok (.getfield 88, 3) := by decide +kernel
theorem dX2_handsOn_38 : decode cX2_handsOn 38 = .ok (.ifCond .eq 23, 3) := by decide +kernel
theorem dX2_handsOn_41 : decode cX2_handsOn 41 = .ok (.aload_n 0, 1) := by decide +kernel
theorem dX2_handsOn_42 : decode cX2_handsOn 42 = .ok (.aload_n 2, 1) := by decide +kernel
theorem dX2_handsOn_43 : decode cX2_handsOn 43 = .ok (.iload_n 3, 1) := by decide +kernel
theorem dX2_handsOn_44 : decode cX2_handsOn 44 = .ok (.iconst 1, 1) := by decide +kernel
theorem dX2_handsOn_45 : decode cX2_handsOn 45 = .ok (.iadd, 1) := by decide +kernel
theorem dX2_handsOn_46 : decode cX2_handsOn 46 = .ok (.aload_n 0, 1) := by decide +kernel
theorem dX2_handsOn_47 : decode cX2_handsOn 47 = .ok (.getfield 27, 3) := by decide +kernel
theorem dX2_handsOn_50 : decode cX2_handsOn 50 = .ok (.getfield 54, 3) := by decide +kernel
theorem dX2_handsOn_53 : decode cX2_handsOn 53 = .ok (.invokevirtual 115, 3) := by decide +kernel
theorem dX2_handsOn_56 : decode cX2_handsOn 56 = .ok (.ifCond .ne 5, 3) := by decide +kernel
theorem dX2_handsOn_59 : decode cX2_handsOn 59 = .ok (.iconst 0, 1) := by decide +kernel
theorem dX2_handsOn_60 : decode cX2_handsOn 60 = .ok (.ireturn, 1) := by decide +kernel
theorem dX2_handsOn_61 : decode cX2_handsOn 61 = .ok (.aload_n 0, 1) := by decide +kernel
theorem dX2_handsOn_62 : decode cX2_handsOn 62 = .ok (.getfield 27, 3) := by decide +kernel
theorem dX2_handsOn_65 : decode cX2_handsOn 65 = .ok (.getfield 92, 3) := by decide +kernel
theorem dX2_handsOn_68 : decode cX2_handsOn 68 = .ok (.ifCond .lt 27, 3) := by decide +kernel
theorem dX2_handsOn_71 : decode cX2_handsOn 71 = .ok (.aload_n 0, 1) := by decide +kernel
theorem dX2_handsOn_72 : decode cX2_handsOn 72 = .ok (.aload_n 2, 1) := by decide +kernel
theorem dX2_handsOn_73 : decode cX2_handsOn 73 = .ok (.aload_n 0, 1) := by decide +kernel
theorem dX2_handsOn_74 : decode cX2_handsOn 74 = .ok (.getfield 27, 3) := by decide +kernel
theorem dX2_handsOn_77 : decode cX2_handsOn 77 = .ok (.getfield 92, 3) := by decide +kernel
theorem dX2_handsOn_80 : decode cX2_handsOn 80 = .ok (.aload_n 0, 1) := by decide +kernel
theorem dX2_handsOn_81 : decode cX2_handsOn 81 = .ok (.getfield 27, 3) := by decide +kernel
theorem dX2_handsOn_84 : decode cX2_handsOn 84 = .ok (.getfield 54, 3) := by decide +kernel
theorem dX2_handsOn_87 : decode cX2_handsOn 87 = .ok (.invokevirtual 115, 3) := by decide +kernel
theorem dX2_handsOn_90 : decode cX2_handsOn 90 = .ok (.ifCond .ne 5, 3) := by decide +kernel
theorem dX2_handsOn_93 : decode cX2_handsOn 93 = .ok (.iconst 0, 1) := by decide +kernel
theorem dX2_handsOn_94 : decode cX2_handsOn 94 = .ok (.ireturn, 1) := by decide +kernel
theorem dX2_handsOn_95 : decode cX2_handsOn 95 = .ok (.aload_n 0, 1) := by decide +kernel
theorem dX2_handsOn_96 : decode cX2_handsOn 96 = .ok (.getfield 20, 3) := by decide +kernel
theorem dX2_handsOn_99 : decode cX2_handsOn 99 = .ok (.aload_n 0, 1) := by decide +kernel
theorem dX2_handsOn_100 : decode cX2_handsOn 100 = .ok (.getfield 13, 3) := by decide +kernel
theorem dX2_handsOn_103 : decode cX2_handsOn 103 = .ok (.iload_n 3, 1) := by decide +kernel
theorem dX2_handsOn_104 : decode cX2_handsOn 104 = .ok (.aaload, 1) := by decide +kernel
theorem dX2_handsOn_105 : decode cX2_handsOn 105 = .ok (.invokevirtual 95, 3) := by decide +kernel
theorem dX2_handsOn_108 : decode cX2_handsOn 108 = .ok (.iconst 0, 1) := by decide +kernel
theorem dX2_handsOn_109 : decode cX2_handsOn 109 = .ok (.istore 4, 2) := by decide +kernel
theorem dX2_handsOn_111 : decode cX2_handsOn 111 = .ok (.iload 4, 2) := by decide +kernel
theorem dX2_handsOn_113 : decode cX2_handsOn 113 = .ok (.aload_n 2, 1) := by decide +kernel
theorem dX2_handsOn_114 : decode cX2_handsOn 114 = .ok (.getfield 98, 3) := by decide +kernel
theorem dX2_handsOn_117 : decode cX2_handsOn 117 = .ok (.if_icmp .ge 40, 3) := by decide +kernel
theorem dX2_handsOn_120 : decode cX2_handsOn 120 = .ok (.aload_n 2, 1) := by decide +kernel
theorem dX2_handsOn_121 : decode cX2_handsOn 121 = .ok (.iload 4, 2) := by decide +kernel
theorem dX2_handsOn_123 : decode cX2_handsOn 123 = .ok (.iload_n 3, 1) := by decide +kernel
theorem dX2_handsOn_124 : decode cX2_handsOn 124 = .ok (.invokevirtual 101, 3) := by decide +kernel
theorem dX2_handsOn_127 : decode cX2_handsOn 127 = .ok (.ifCond .eq 24, 3) := by decide +kernel
theorem dX2_handsOn_130 : decode cX2_handsOn 130 = .ok (.aload_n 0, 1) := by decide +kernel
theorem dX2_handsOn_131 : decode cX2_handsOn 131 = .ok (.aload_n 2, 1) := by decide +kernel
theorem dX2_handsOn_132 : decode cX2_handsOn 132 = .ok (.aload_n 2, 1) := by decide +kernel
theorem dX2_handsOn_133 : decode cX2_handsOn 133 = .ok (.getfield 105, 3) := by decide +kernel
theorem dX2_handsOn_136 : decode cX2_handsOn 136 = .ok (.iload 4, 2) := by decide +kernel
theorem dX2_handsOn_138 : decode cX2_handsOn 138 = .ok (.iaload, 1) := by decide +kernel
theorem dX2_handsOn_139 : decode cX2_handsOn 139 = .ok (.aload_n 0, 1) := by decide +kernel
theorem dX2_handsOn_140 : decode cX2_handsOn 140 = .ok (.getfield 20, 3) := by decide +kernel
theorem dX2_handsOn_143 : decode cX2_handsOn 143 = .ok (.invokevirtual 115, 3) := by decide +kernel
theorem dX2_handsOn_146 : decode cX2_handsOn 146 = .ok (.ifCond .ne 5, 3) := by decide +kernel
theorem dX2_handsOn_149 : decode cX2_handsOn 149 = .ok (.iconst 0, 1) := by decide +kernel
theorem dX2_handsOn_150 : decode cX2_handsOn 150 = .ok (.ireturn, 1) := by decide +kernel
theorem dX2_handsOn_151 : decode cX2_handsOn 151 = .ok (.iinc 4 1, 3) := by decide +kernel
theorem dX2_handsOn_154 : decode cX2_handsOn 154 = .ok (.goto (-43), 3) := by decide +kernel
theorem dX2_handsOn_157 : decode cX2_handsOn 157 = .ok (.iconst 1, 1) := by decide +kernel
theorem dX2_handsOn_158 : decode cX2_handsOn 158 = .ok (.ireturn, 1) := by decide +kernel
theorem dX2_arrives_0 : decode cX2_arrives 0 = .ok (.aload_n 1, 1) := by decide +kernel
theorem dX2_arrives_1 : decode cX2_arrives 1 = .ok (.iload_n 2, 1) := by decide +kernel
theorem dX2_arrives_2 : decode cX2_arrives 2 = .ok (.i2l, 1) := by decide +kernel
theorem dX2_arrives_3 : decode cX2_arrives 3 = .ok (.invokevirtual 108, 3) := by decide +kernel
theorem dX2_arrives_6 : decode cX2_arrives 6 = .ok (.ifCond .eq 9, 3) := by decide +kernel
theorem dX2_arrives_9 : decode cX2_arrives 9 = .ok (.iload_n 2, 1) := by decide +kernel
theorem dX2_arrives_10 : decode cX2_arrives 10 = .ok (.bipush 40, 2) := by decide +kernel
theorem dX2_arrives_12 : decode cX2_arrives 12 = .ok (.if_icmp .lt 5, 3) := by decide +kernel
theorem dX2_arrives_15 : decode cX2_arrives 15 = .ok (.iconst 0, 1) := by decide +kernel
theorem dX2_arrives_16 : decode cX2_arrives 16 = .ok (.ireturn, 1) := by decide +kernel
theorem dX2_arrives_17 : decode cX2_arrives 17 = .ok (.aload_n 0, 1) := by decide +kernel
theorem dX2_arrives_18 : decode cX2_arrives 18 = .ok (.getfield 13, 3) := by decide +kernel
theorem dX2_arrives_21 : decode cX2_arrives 21 = .ok (.iload_n 2, 1) := by decide +kernel
theorem dX2_arrives_22 : decode cX2_arrives 22 = .ok (.aaload, 1) := by decide +kernel
