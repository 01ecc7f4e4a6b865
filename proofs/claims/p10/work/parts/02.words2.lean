theorem im_X4_end : Cond.instanceMethod yX4_end ∈ gw := gw_at 725 (by decide +kernel) rfl
theorem cd_X4_end : Cond.code yX4_end cX4_end 3 none ∈ gw := gw_in (tb_3 (List.mem_of_getElem? (i := 167) rfl)) rfl
theorem ml_X4_132 : Cond.methodLink RX4 132 yX4_usesArray ∈ gw := gw_at 727 (by decide +kernel) rfl
theorem im_X4_usesArray : Cond.instanceMethod yX4_usesArray ∈ gw := gw_at 729 (by decide +kernel) rfl
theorem cd_X4_usesArray : Cond.code yX4_usesArray cX4_usesArray 6 (some .int) ∈ gw := gw_in (tb_3 (List.mem_of_getElem? (i := 171) rfl)) rfl
theorem ml_X4_178 : Cond.methodLink RX4 178 yX1_isNull ∈ gw := gw_at 731 (by decide +kernel) rfl
theorem im_X1_isNull : Cond.instanceMethod yX1_isNull ∈ gw := gw_at 732 (by decide +kernel) rfl
theorem se_X1_isNull : Cond.selects RX1 yX1_isNull yX1_isNull ∈ gw := gw_at 733 (by decide +kernel) rfl
theorem cd_X1_isNull : Cond.code yX1_isNull cX1_isNull 2 (some .boolean) ∈ gw := gw_in (tb_3 (List.mem_of_getElem? (i := 175) rfl)) rfl
theorem ml_X4_182 : Cond.methodLink RX4 182 yX1_length ∈ gw := gw_at 735 (by decide +kernel) rfl
theorem im_X1_length : Cond.instanceMethod yX1_length ∈ gw := gw_at 736 (by decide +kernel) rfl
theorem se_X1_length : Cond.selects RX1 yX1_length yX1_length ∈ gw := gw_at 737 (by decide +kernel) rfl
theorem cd_X1_length : Cond.code yX1_length cX1_length 2 (some .int) ∈ gw := gw_in (tb_3 (List.mem_of_getElem? (i := 179) rfl)) rfl
theorem ml_X1_26 : Cond.methodLink RX1 26 yX1_isNull ∈ gw := gw_at 739 (by decide +kernel) rfl
theorem ml_X4_185 : Cond.methodLink RX4 185 yX1_hasItem ∈ gw := gw_at 740 (by decide +kernel) rfl
theorem im_X1_hasItem : Cond.instanceMethod yX1_hasItem ∈ gw := gw_at 741 (by decide +kernel) rfl
theorem se_X1_hasItem : Cond.selects RX1 yX1_hasItem yX1_hasItem ∈ gw := gw_at 742 (by decide +kernel) rfl
theorem cd_X1_hasItem : Cond.code yX1_hasItem cX1_hasItem 3 (some .boolean) ∈ gw := gw_in (tb_3 (List.mem_of_getElem? (i := 184) rfl)) rfl
theorem ml_X4_189 : Cond.methodLink RX4 189 yX1_canHold ∈ gw := gw_at 744 (by decide +kernel) rfl
theorem im_X1_canHold : Cond.instanceMethod yX1_canHold ∈ gw := gw_at 745 (by decide +kernel) rfl
theorem se_X1_canHold : Cond.selects RX1 yX1_canHold yX1_canHold ∈ gw := gw_at 746 (by decide +kernel) rfl
theorem cd_X1_canHold : Cond.code yX1_canHold cX1_canHold 3 (some .boolean) ∈ gw := gw_in (tb_3 (List.mem_of_getElem? (i := 188) rfl)) rfl
theorem ml_X1_42 : Cond.methodLink RX1 42 yX1_isOf ∈ gw := gw_at 748 (by decide +kernel) rfl
theorem im_X1_isOf : Cond.instanceMethod yX1_isOf ∈ gw := gw_at 749 (by decide +kernel) rfl
theorem se_X1_isOf : Cond.selects RX1 yX1_isOf yX1_isOf ∈ gw := gw_at 750 (by decide +kernel) rfl
theorem cd_X1_isOf : Cond.code yX1_isOf cX1_isOf 3 (some .boolean) ∈ gw := gw_in (tb_3 (List.mem_of_getElem? (i := 192) rfl)) rfl
theorem ml_X1_34 : Cond.methodLink RX1 34 yX3_isObject ∈ gw := gw_at 752 (by decide +kernel) rfl
theorem ml_X1_39 : Cond.methodLink RX1 39 yX3_isUnder ∈ gw := gw_at 753 (by decide +kernel) rfl
theorem ml_X4_192 : Cond.methodLink RX4 192 yX1_putItem ∈ gw := gw_at 754 (by decide +kernel) rfl
theorem im_X1_putItem : Cond.instanceMethod yX1_putItem ∈ gw := gw_at 755 (by decide +kernel) rfl
theorem se_X1_putItem : Cond.selects RX1 yX1_putItem yX1_putItem ∈ gw := gw_at 756 (by decide +kernel) rfl
theorem cd_X1_putItem : Cond.code yX1_putItem cX1_putItem 4 none ∈ gw := gw_in (tb_3 (List.mem_of_getElem? (i := 198) rfl)) rfl
theorem ml_X1_30 : Cond.methodLink RX1 30 yX1_hasItem ∈ gw := gw_at 758 (by decide +kernel) rfl
theorem ml_X4_196 : Cond.methodLink RX4 196 yX1_item ∈ gw := gw_at 759 (by decide +kernel) rfl
theorem im_X1_item : Cond.instanceMethod yX1_item ∈ gw := gw_at 760 (by decide +kernel) rfl
theorem se_X1_item : Cond.selects RX1 yX1_item yX1_item ∈ gw := gw_at 761 (by decide +kernel) rfl
theorem cd_X1_item : Cond.code yX1_item cX1_item 3 (some .int) ∈ gw := gw_in (tb_3 (List.mem_of_getElem? (i := 203) rfl)) rfl
theorem ml_X4_136 : Cond.methodLink RX4 136 yX4_asks ∈ gw := gw_at 763 (by decide +kernel) rfl
theorem im_X4_asks : Cond.instanceMethod yX4_asks ∈ gw := gw_at 765 (by decide +kernel) rfl
theorem cd_X4_asks : Cond.code yX4_asks cX4_asks 5 (some .int) ∈ gw := gw_in (tb_3 (List.mem_of_getElem? (i := 207) rfl)) rfl
theorem ml_X4_199 : Cond.methodLink RX4 199 yX1_isOf ∈ gw := gw_at 767 (by decide +kernel) rfl
theorem ml_X4_139 : Cond.methodLink RX4 139 yX4_usesObject ∈ gw := gw_at 768 (by decide +kernel) rfl
theorem im_X4_usesObject : Cond.instanceMethod yX4_usesObject ∈ gw := gw_at 770 (by decide +kernel) rfl
theorem cd_X4_usesObject : Cond.code yX4_usesObject cX4_usesObject 4 (some .int) ∈ gw := gw_in (tb_3 (List.mem_of_getElem? (i := 212) rfl)) rfl
theorem ml_X4_202 : Cond.methodLink RX4 202 yX1_field ∈ gw := gw_at 772 (by decide +kernel) rfl
theorem im_X1_field : Cond.instanceMethod yX1_field ∈ gw := gw_at 773 (by decide +kernel) rfl
theorem se_X1_field : Cond.selects RX1 yX1_field yX1_field ∈ gw := gw_at 774 (by decide +kernel) rfl
theorem cd_X1_field : Cond.code yX1_field cX1_field 2 (some .int) ∈ gw := gw_in (tb_3 (List.mem_of_getElem? (i := 216) rfl)) rfl
theorem ml_X4_205 : Cond.methodLink RX4 205 yX1_putField ∈ gw := gw_at 776 (by decide +kernel) rfl
theorem im_X1_putField : Cond.instanceMethod yX1_putField ∈ gw := gw_at 777 (by decide +kernel) rfl
theorem se_X1_putField : Cond.selects RX1 yX1_putField yX1_putField ∈ gw := gw_at 778 (by decide +kernel) rfl
theorem cd_X1_putField : Cond.code yX1_putField cX1_putField 3 none ∈ gw := gw_in (tb_3 (List.mem_of_getElem? (i := 220) rfl)) rfl
theorem ml_X4_208 : Cond.methodLink RX4 208 yX1_worth ∈ gw := gw_at 780 (by decide +kernel) rfl
theorem im_X1_worth : Cond.instanceMethod yX1_worth ∈ gw := gw_at 781 (by decide +kernel) rfl
theorem se_X1_worth : Cond.selects RX1 yX1_worth yX1_worth ∈ gw := gw_at 782 (by decide +kernel) rfl
theorem cd_X1_worth : Cond.code yX1_worth cX1_worth 5 (some .int) ∈ gw := gw_in (tb_3 (List.mem_of_getElem? (i := 224) rfl)) rfl
theorem ml_X4_142 : Cond.methodLink RX4 142 yX4_turns ∈ gw := gw_at 784 (by decide +kernel) rfl
theorem im_X4_turns : Cond.instanceMethod yX4_turns ∈ gw := gw_at 786 (by decide +kernel) rfl
theorem cd_X4_turns : Cond.code yX4_turns cX4_turns 6 (some .int) ∈ gw := gw_in (tb_3 (List.mem_of_getElem? (i := 228) rfl)) rfl
theorem ml_X4_145 : Cond.methodLink RX4 145 yX4_leads ∈ gw := gw_at 788 (by decide +kernel) rfl
theorem im_X4_leads : Cond.instanceMethod yX4_leads ∈ gw := gw_at 790 (by decide +kernel) rfl
theorem cd_X4_leads : Cond.code yX4_leads cX4_leads 5 (some .int) ∈ gw := gw_in (tb_3 (List.mem_of_getElem? (i := 232) rfl)) rfl
theorem ml_X4_211 : Cond.methodLink RX4 211 yX4_jumpsIf ∈ gw := gw_at 792 (by decide +kernel) rfl
theorem im_X4_jumpsIf : Cond.instanceMethod yX4_jumpsIf ∈ gw := gw_at 794 (by decide +kernel) rfl
theorem cd_X4_jumpsIf : Cond.code yX4_jumpsIf cX4_jumpsIf 4 (some .int) ∈ gw := gw_in (tb_3 (List.mem_of_getElem? (i := 236) rfl)) rfl
theorem ml_X4_215 : Cond.methodLink RX4 215 yX4_returns ∈ gw := gw_at 796 (by decide +kernel) rfl
theorem im_X4_returns : Cond.instanceMethod yX4_returns ∈ gw := gw_at 798 (by decide +kernel) rfl
theorem cd_X4_returns : Cond.code yX4_returns cX4_returns 2 (some .int) ∈ gw := gw_in (tb_4 (List.mem_of_getElem? (i := 0) rfl)) rfl
theorem ml_X4_218 : Cond.methodLink RX4 218 yX7_at ∈ gw := gw_at 800 (by decide +kernel) rfl
theorem ml_X4_222 : Cond.methodLink RX4 222 yX4_calls ∈ gw := gw_at 801 (by decide +kernel) rfl
theorem im_X4_calls : Cond.instanceMethod yX4_calls ∈ gw := gw_at 803 (by decide +kernel) rfl
theorem cd_X4_calls : Cond.code yX4_calls cX4_calls 4 (some .int) ∈ gw := gw_in (tb_4 (List.mem_of_getElem? (i := 5) rfl)) rfl
theorem ml_X4_90 : Cond.methodLink RX4 90 yX4_arises ∈ gw := gw_at 805 (by decide +kernel) rfl
theorem im_X4_arises : Cond.instanceMethod yX4_arises ∈ gw := gw_at 807 (by decide +kernel) rfl
theorem cd_X4_arises : Cond.code yX4_arises cX4_arises 5 none ∈ gw := gw_in (tb_4 (List.mem_of_getElem? (i := 9) rfl)) rfl
theorem ml_X4_104 : Cond.methodLink RX4 104 yX4_catches ∈ gw := gw_at 809 (by decide +kernel) rfl
theorem im_X4_catches : Cond.instanceMethod yX4_catches ∈ gw := gw_at 811 (by decide +kernel) rfl
theorem cd_X4_catches : Cond.code yX4_catches cX4_catches 5 (some .boolean) ∈ gw := gw_in (tb_4 (List.mem_of_getElem? (i := 13) rfl)) rfl
theorem ml_X4_108 : Cond.methodLink RX4 108 yX0_handlerFor ∈ gw := gw_at 813 (by decide +kernel) rfl
theorem im_X0_handlerFor : Cond.instanceMethod yX0_handlerFor ∈ gw := gw_at 814 (by decide +kernel) rfl
theorem se_X0_handlerFor : Cond.selects RX0 yX0_handlerFor yX0_handlerFor ∈ gw := gw_at 815 (by decide +kernel) rfl
theorem cd_X0_handlerFor : Cond.code yX0_handlerFor cX0_handlerFor 4 (some .int) ∈ gw := gw_in (tb_4 (List.mem_of_getElem? (i := 17) rfl)) rfl
theorem ml_X0_62 : Cond.methodLink RX0 62 yX0_covers ∈ gw := gw_at 817 (by decide +kernel) rfl
theorem ml_L_67 : Cond.methodLink RL 67 yX9_answer ∈ gw := gw_at 818 (by decide +kernel) rfl
theorem im_X9_answer : Cond.instanceMethod yX9_answer ∈ gw := gw_at 819 (by decide +kernel) rfl
theorem se_X9_answer : Cond.selects RX9 yX9_answer yX9_answer ∈ gw := gw_at 820 (by decide +kernel) rfl
theorem cd_X9_answer : Cond.code yX9_answer cX9_answer 1 (some .int) ∈ gw := gw_in (tb_4 (List.mem_of_getElem? (i := 22) rfl)) rfl
theorem ml_L_71 : Cond.methodLink RL 71 yX9_told ∈ gw := gw_at 822 (by decide +kernel) rfl
theorem im_X9_told : Cond.instanceMethod yX9_told ∈ gw := gw_at 823 (by decide +kernel) rfl
theorem se_X9_told : Cond.selects RX9 yX9_told yX9_told ∈ gw := gw_at 824 (by decide +kernel) rfl
theorem cd_X9_told : Cond.code yX9_told cX9_told 2 (some .int) ∈ gw := gw_in (tb_4 (List.mem_of_getElem? (i := 26) rfl)) rfl
theorem ml_L_75 : Cond.methodLink RL 75 yX9_count ∈ gw := gw_at 826 (by decide +kernel) rfl
theorem im_X9_count : Cond.instanceMethod yX9_count ∈ gw := gw_at 827 (by decide +kernel) rfl
theorem se_X9_count : Cond.selects RX9 yX9_count yX9_count ∈ gw := gw_at 828 (by decide +kernel) rfl
theorem cd_X9_count : Cond.code yX9_count cX9_count 4 (some .int) ∈ gw := gw_in (tb_4 (List.mem_of_getElem? (i := 30) rfl)) rfl
theorem cl_L_10 : Cond.classLink RL 10 RX10 ∈ gw := gw_at 830 (by decide +kernel) rfl
theorem ins_X10 : Cond.instantiable RX10 35 ∈ gw := gw_at 831 (by decide +kernel) rfl
theorem ml_L_12 : Cond.methodLink RL 12 yX10_init ∈ gw := gw_at 832 (by decide +kernel) rfl
theorem im_X10_init : Cond.instanceMethod yX10_init ∈ gw := gw_at 833 (by decide +kernel) rfl
theorem cd_X10_init : Cond.code yX10_init cX10_init 2 none ∈ gw := gw_in (tb_4 (List.mem_of_getElem? (i := 35) rfl)) rfl
theorem ml_X10_1 : Cond.methodLink RX10 1 objectInit ∈ gw := gw_at 835 (by decide +kernel) rfl
theorem fl_X10_75 : Cond.fieldLink RX10 75 "KindJudgeModel" "methods" "I" ∈ gw := gw_at 836 (by decide +kernel) rfl
theorem fl_X10_7 : Cond.fieldLink RX10 7 "KindJudgeModel" "params" "[I" ∈ gw := gw_at 837 (by decide +kernel) rfl
theorem fl_X10_13 : Cond.fieldLink RX10 13 "KindJudgeModel" "opMany" "[I" ∈ gw := gw_at 838 (by decide +kernel) rfl
theorem fl_X10_16 : Cond.fieldLink RX10 16 "KindJudgeModel" "ops" "[I" ∈ gw := gw_at 839 (by decide +kernel) rfl
theorem fl_X10_19 : Cond.fieldLink RX10 19 "KindJudgeModel" "as" "[J" ∈ gw := gw_at 840 (by decide +kernel) rfl
theorem fl_X10_23 : Cond.fieldLink RX10 23 "KindJudgeModel" "handlerMany" "[I" ∈ gw := gw_at 841 (by decide +kernel) rfl
theorem fl_X10_26 : Cond.fieldLink RX10 26 "KindJudgeModel" "handlers" "[I" ∈ gw := gw_at 842 (by decide +kernel) rfl
theorem fl_X10_29 : Cond.fieldLink RX10 29 "KindJudgeModel" "frameDepth" "[I" ∈ gw := gw_at 843 (by decide +kernel) rfl
theorem fl_X10_32 : Cond.fieldLink RX10 32 "KindJudgeModel" "frames" "[I" ∈ gw := gw_at 844 (by decide +kernel) rfl
theorem fl_X10_35 : Cond.fieldLink RX10 35 "KindJudgeModel" "isRight" "[Z" ∈ gw := gw_at 845 (by decide +kernel) rfl
theorem fl_X10_39 : Cond.fieldLink RX10 39 "KindJudgeModel" "seenDepth" "[I" ∈ gw := gw_at 846 (by decide +kernel) rfl
theorem fl_X10_42 : Cond.fieldLink RX10 42 "KindJudgeModel" "seen" "[I" ∈ gw := gw_at 847 (by decide +kernel) rfl
theorem fl_X10_225 : Cond.fieldLink RX10 225 "KindJudgeModel" "rounds" "I" ∈ gw := gw_at 848 (by decide +kernel) rfl
theorem fl_X10_45 : Cond.fieldLink RX10 45 "KindJudgeModel" "hand" "[I" ∈ gw := gw_at 849 (by decide +kernel) rfl
theorem fl_X10_145 : Cond.fieldLink RX10 145 "KindJudgeModel" "depth" "I" ∈ gw := gw_at 850 (by decide +kernel) rfl
theorem fl_X10_212 : Cond.fieldLink RX10 212 "KindJudgeModel" "hasChanged" "Z" ∈ gw := gw_at 851 (by decide +kernel) rfl
theorem fl_X10_48 : Cond.fieldLink RX10 48 "KindJudgeModel" "came" "[I" ∈ gw := gw_at 852 (by decide +kernel) rfl
theorem fl_X10_51 : Cond.fieldLink RX10 51 "KindJudgeModel" "places" "[J" ∈ gw := gw_at 853 (by decide +kernel) rfl
theorem fl_X10_54 : Cond.fieldLink RX10 54 "KindJudgeModel" "heights" "[I" ∈ gw := gw_at 854 (by decide +kernel) rfl
theorem fl_X10_57 : Cond.fieldLink RX10 57 "KindJudgeModel" "methodAt" "[I" ∈ gw := gw_at 855 (by decide +kernel) rfl
theorem fl_X10_60 : Cond.fieldLink RX10 60 "KindJudgeModel" "pcs" "[I" ∈ gw := gw_at 856 (by decide +kernel) rfl
theorem fl_X10_235 : Cond.fieldLink RX10 235 "KindJudgeModel" "frame" "I" ∈ gw := gw_at 857 (by decide +kernel) rfl
theorem fl_X10_248 : Cond.fieldLink RX10 248 "KindJudgeModel" "made" "I" ∈ gw := gw_at 858 (by decide +kernel) rfl
theorem fl_X10_63 : Cond.fieldLink RX10 63 "KindJudgeModel" "sorts" "[I" ∈ gw := gw_at 859 (by decide +kernel) rfl
theorem fl_X10_66 : Cond.fieldLink RX10 66 "KindJudgeModel" "sizes" "[I" ∈ gw := gw_at 860 (by decide +kernel) rfl
theorem fl_X10_69 : Cond.fieldLink RX10 69 "KindJudgeModel" "fields" "[I" ∈ gw := gw_at 861 (by decide +kernel) rfl
theorem fl_X10_72 : Cond.fieldLink RX10 72 "KindJudgeModel" "things" "[J" ∈ gw := gw_at 862 (by decide +kernel) rfl
theorem fl_X10_263 : Cond.fieldLink RX10 263 "KindJudgeModel" "answer" "I" ∈ gw := gw_at 863 (by decide +kernel) rfl
theorem fl_X10_251 : Cond.fieldLink RX10 251 "KindJudgeModel" "done" "I" ∈ gw := gw_at 864 (by decide +kernel) rfl
theorem fl_X10_254 : Cond.fieldLink RX10 254 "KindJudgeModel" "failures" "I" ∈ gw := gw_at 865 (by decide +kernel) rfl
theorem fl_X10_257 : Cond.fieldLink RX10 257 "KindJudgeModel" "failedIn" "I" ∈ gw := gw_at 866 (by decide +kernel) rfl
theorem fl_X10_260 : Cond.fieldLink RX10 260 "KindJudgeModel" "failedAt" "I" ∈ gw := gw_at 867 (by decide +kernel) rfl
theorem fl_X10_245 : Cond.fieldLink RX10 245 "KindJudgeModel" "hasRun" "Z" ∈ gw := gw_at 868 (by decide +kernel) rfl
theorem fl_X10_273 : Cond.fieldLink RX10 273 "KindJudgeModel" "failure" "I" ∈ gw := gw_at 869 (by decide +kernel) rfl
theorem ac_boolean : Cond.arrayClass .boolean ∈ gw := gw_at 941 (by decide +kernel) rfl
theorem ml_L_62 : Cond.methodLink RL 62 yX10_kinds ∈ gw := gw_at 942 (by decide +kernel) rfl
theorem im_X10_kinds : Cond.instanceMethod yX10_kinds ∈ gw := gw_at 943 (by decide +kernel) rfl
theorem se_X10_kinds : Cond.selects RX10 yX10_kinds yX10_kinds ∈ gw := gw_at 944 (by decide +kernel) rfl
theorem cd_X10_kinds : Cond.code yX10_kinds cX10_kinds 4 (some .int) ∈ gw := gw_in (tb_4 (List.mem_of_getElem? (i := 146) rfl)) rfl
theorem ml_X10_119 : Cond.methodLink RX10 119 yX10_isKind ∈ gw := gw_at 946 (by decide +kernel) rfl
theorem st_X10_isKind : Cond.static yX10_isKind ∈ gw := gw_at 947 (by decide +kernel) rfl
theorem cd_X10_isKind : Cond.code yX10_isKind cX10_isKind 1 (some .boolean) ∈ gw := gw_in (tb_4 (List.mem_of_getElem? (i := 149) rfl)) rfl
theorem kl_X10_102 : Cond.constantLong RX10 102 (5) ∈ gw := gw_at 949 (by decide +kernel) rfl
theorem ml_X10_79 : Cond.methodLink RX10 79 yX10_isIn ∈ gw := gw_at 950 (by decide +kernel) rfl
theorem st_X10_isIn : Cond.static yX10_isIn ∈ gw := gw_at 951 (by decide +kernel) rfl
theorem cd_X10_isIn : Cond.code yX10_isIn cX10_isIn 6 (some .boolean) ∈ gw := gw_in (tb_4 (List.mem_of_getElem? (i := 153) rfl)) rfl
theorem ml_X10_95 : Cond.methodLink RX10 95 yX10_isObject ∈ gw := gw_at 953 (by decide +kernel) rfl
theorem st_X10_isObject : Cond.static yX10_isObject ∈ gw := gw_at 954 (by decide +kernel) rfl
theorem cd_X10_isObject : Cond.code yX10_isObject cX10_isObject 1 (some .boolean) ∈ gw := gw_in (tb_4 (List.mem_of_getElem? (i := 156) rfl)) rfl
theorem kl_X10_87 : Cond.constantLong RX10 87 (10) ∈ gw := gw_at 956 (by decide +kernel) rfl
theorem kl_X10_89 : Cond.constantLong RX10 89 (17) ∈ gw := gw_at 957 (by decide +kernel) rfl
theorem ml_X10_99 : Cond.methodLink RX10 99 yX10_isRow ∈ gw := gw_at 958 (by decide +kernel) rfl
theorem st_X10_isRow : Cond.static yX10_isRow ∈ gw := gw_at 959 (by decide +kernel) rfl
theorem cd_X10_isRow : Cond.code yX10_isRow cX10_isRow 1 (some .boolean) ∈ gw := gw_in (tb_4 (List.mem_of_getElem? (i := 161) rfl)) rfl
theorem kl_X10_91 : Cond.constantLong RX10 91 (21) ∈ gw := gw_at 961 (by decide +kernel) rfl
theorem kl_X10_93 : Cond.constantLong RX10 93 (25) ∈ gw := gw_at 962 (by decide +kernel) rfl
theorem kl_X10_104 : Cond.constantLong RX10 104 (100) ∈ gw := gw_at 963 (by decide +kernel) rfl
theorem kl_X10_106 : Cond.constantLong RX10 106 (139) ∈ gw := gw_at 964 (by decide +kernel) rfl
theorem ml_X10_122 : Cond.methodLink RX10 122 yX10_joined ∈ gw := gw_at 965 (by decide +kernel) rfl
theorem st_X10_joined : Cond.static yX10_joined ∈ gw := gw_at 966 (by decide +kernel) rfl
theorem cd_X10_joined : Cond.code yX10_joined cX10_joined 2 (some .int) ∈ gw := gw_in (tb_4 (List.mem_of_getElem? (i := 168) rfl)) rfl
theorem ml_X10_108 : Cond.methodLink RX10 108 yX10_isThing ∈ gw := gw_at 968 (by decide +kernel) rfl
theorem st_X10_isThing : Cond.static yX10_isThing ∈ gw := gw_at 969 (by decide +kernel) rfl
theorem cd_X10_isThing : Cond.code yX10_isThing cX10_isThing 1 (some .boolean) ∈ gw := gw_in (tb_4 (List.mem_of_getElem? (i := 171) rfl)) rfl
theorem ml_X10_115 : Cond.methodLink RX10 115 yX10_common ∈ gw := gw_at 971 (by decide +kernel) rfl
theorem st_X10_common : Cond.static yX10_common ∈ gw := gw_at 972 (by decide +kernel) rfl
theorem cd_X10_common : Cond.code yX10_common cX10_common 3 (some .int) ∈ gw := gw_in (tb_4 (List.mem_of_getElem? (i := 174) rfl)) rfl
theorem ml_X10_111 : Cond.methodLink RX10 111 yX10_isUnder ∈ gw := gw_at 974 (by decide +kernel) rfl
theorem st_X10_isUnder : Cond.static yX10_isUnder ∈ gw := gw_at 975 (by decide +kernel) rfl
theorem cd_X10_isUnder : Cond.code yX10_isUnder cX10_isUnder 3 (some .boolean) ∈ gw := gw_in (tb_4 (List.mem_of_getElem? (i := 177) rfl)) rfl
theorem ml_X10_83 : Cond.methodLink RX10 83 yX10_above ∈ gw := gw_at 977 (by decide +kernel) rfl
theorem st_X10_above : Cond.static yX10_above ∈ gw := gw_at 978 (by decide +kernel) rfl
theorem cd_X10_above : Cond.code yX10_above cX10_above 1 (some .int) ∈ gw := gw_in (tb_4 (List.mem_of_getElem? (i := 180) rfl)) rfl
theorem ml_X10_125 : Cond.methodLink RX10 125 yX10_goes ∈ gw := gw_at 980 (by decide +kernel) rfl
theorem st_X10_goes : Cond.static yX10_goes ∈ gw := gw_at 981 (by decide +kernel) rfl
theorem cd_X10_goes : Cond.code yX10_goes cX10_goes 2 (some .boolean) ∈ gw := gw_in (tb_4 (List.mem_of_getElem? (i := 183) rfl)) rfl
theorem ml_L_17 : Cond.methodLink RL 17 yX10_method ∈ gw := gw_at 983 (by decide +kernel) rfl
theorem im_X10_method : Cond.instanceMethod yX10_method ∈ gw := gw_at 984 (by decide +kernel) rfl
theorem se_X10_method : Cond.selects RX10 yX10_method yX10_method ∈ gw := gw_at 985 (by decide +kernel) rfl
theorem cd_X10_method : Cond.code yX10_method cX10_method 3 (some .int) ∈ gw := gw_in (tb_4 (List.mem_of_getElem? (i := 187) rfl)) rfl
theorem kl_X10_128 : Cond.constantLong RX10 128 (4) ∈ gw := gw_at 987 (by decide +kernel) rfl
theorem ml_L_24 : Cond.methodLink RL 24 yX10_op ∈ gw := gw_at 988 (by decide +kernel) rfl
theorem im_X10_op : Cond.instanceMethod yX10_op ∈ gw := gw_at 989 (by decide +kernel) rfl
theorem se_X10_op : Cond.selects RX10 yX10_op yX10_op ∈ gw := gw_at 990 (by decide +kernel) rfl
theorem cd_X10_op : Cond.code yX10_op cX10_op 5 (some .int) ∈ gw := gw_in (tb_4 (List.mem_of_getElem? (i := 192) rfl)) rfl
theorem ml_X10_130 : Cond.methodLink RX10 130 yX10_isMethod ∈ gw := gw_at 992 (by decide +kernel) rfl
theorem im_X10_isMethod : Cond.instanceMethod yX10_isMethod ∈ gw := gw_at 994 (by decide +kernel) rfl
theorem cd_X10_isMethod : Cond.code yX10_isMethod cX10_isMethod 2 (some .boolean) ∈ gw := gw_in (tb_4 (List.mem_of_getElem? (i := 196) rfl)) rfl
theorem ml_X10_133 : Cond.methodLink RX10 133 yX10_changed ∈ gw := gw_at 996 (by decide +kernel) rfl
theorem im_X10_changed : Cond.instanceMethod yX10_changed ∈ gw := gw_at 998 (by decide +kernel) rfl
theorem cd_X10_changed : Cond.code yX10_changed cX10_changed 2 none ∈ gw := gw_in (tb_4 (List.mem_of_getElem? (i := 200) rfl)) rfl
theorem ml_L_29 : Cond.methodLink RL 29 yX10_handler ∈ gw := gw_at 1000 (by decide +kernel) rfl
theorem im_X10_handler : Cond.instanceMethod yX10_handler ∈ gw := gw_at 1001 (by decide +kernel) rfl
theorem se_X10_handler : Cond.selects RX10 yX10_handler yX10_handler ∈ gw := gw_at 1002 (by decide +kernel) rfl
theorem cd_X10_handler : Cond.code yX10_handler cX10_handler 7 (some .int) ∈ gw := gw_in (tb_4 (List.mem_of_getElem? (i := 204) rfl)) rfl
theorem kl_X10_137 : Cond.constantLong RX10 137 (39) ∈ gw := gw_at 1004 (by decide +kernel) rfl
theorem kl_X10_139 : Cond.constantLong RX10 139 (7) ∈ gw := gw_at 1005 (by decide +kernel) rfl
theorem ml_L_34 : Cond.methodLink RL 34 yX10_frame ∈ gw := gw_at 1006 (by decide +kernel) rfl
theorem im_X10_frame : Cond.instanceMethod yX10_frame ∈ gw := gw_at 1007 (by decide +kernel) rfl
theorem se_X10_frame : Cond.selects RX10 yX10_frame yX10_frame ∈ gw := gw_at 1008 (by decide +kernel) rfl
theorem cd_X10_frame : Cond.code yX10_frame cX10_frame 5 (some .int) ∈ gw := gw_in (tb_4 (List.mem_of_getElem? (i := 210) rfl)) rfl
theorem kl_X10_141 : Cond.constantLong RX10 141 (-1) ∈ gw := gw_at 1010 (by decide +kernel) rfl
theorem kl_X10_143 : Cond.constantLong RX10 143 (8) ∈ gw := gw_at 1011 (by decide +kernel) rfl
theorem ml_L_39 : Cond.methodLink RL 39 yX10_set ∈ gw := gw_at 1012 (by decide +kernel) rfl
theorem im_X10_set : Cond.instanceMethod yX10_set ∈ gw := gw_at 1013 (by decide +kernel) rfl
theorem se_X10_set : Cond.selects RX10 yX10_set yX10_set ∈ gw := gw_at 1014 (by decide +kernel) rfl
theorem cd_X10_set : Cond.code yX10_set cX10_set 7 (some .int) ∈ gw := gw_in (tb_4 (List.mem_of_getElem? (i := 216) rfl)) rfl
theorem ml_L_43 : Cond.methodLink RL 43 yX10_judge ∈ gw := gw_at 1016 (by decide +kernel) rfl
theorem im_X10_judge : Cond.instanceMethod yX10_judge ∈ gw := gw_at 1017 (by decide +kernel) rfl
theorem se_X10_judge : Cond.selects RX10 yX10_judge yX10_judge ∈ gw := gw_at 1018 (by decide +kernel) rfl
theorem cd_X10_judge : Cond.code yX10_judge cX10_judge 3 (some .int) ∈ gw := gw_in (tb_4 (List.mem_of_getElem? (i := 220) rfl)) rfl
theorem ml_X10_209 : Cond.methodLink RX10 209 yX10_wrongByFrames ∈ gw := gw_at 1020 (by decide +kernel) rfl
theorem im_X10_wrongByFrames : Cond.instanceMethod yX10_wrongByFrames ∈ gw := gw_at 1022 (by decide +kernel) rfl
theorem cd_X10_wrongByFrames : Cond.code yX10_wrongByFrames cX10_wrongByFrames 6 (some .int) ∈ gw := gw_in (tb_4 (List.mem_of_getElem? (i := 224) rfl)) rfl
theorem ml_X10_188 : Cond.methodLink RX10 188 yX10_begins ∈ gw := gw_at 1024 (by decide +kernel) rfl
theorem im_X10_begins : Cond.instanceMethod yX10_begins ∈ gw := gw_at 1026 (by decide +kernel) rfl
theorem cd_X10_begins : Cond.code yX10_begins cX10_begins 3 none ∈ gw := gw_in (tb_4 (List.mem_of_getElem? (i := 228) rfl)) rfl
theorem ml_X10_191 : Cond.methodLink RX10 191 yX10_goesToFrame ∈ gw := gw_at 1028 (by decide +kernel) rfl
theorem im_X10_goesToFrame : Cond.instanceMethod yX10_goesToFrame ∈ gw := gw_at 1030 (by decide +kernel) rfl
theorem cd_X10_goesToFrame : Cond.code yX10_goesToFrame cX10_goesToFrame 6 (some .boolean) ∈ gw := gw_in (tb_4 (List.mem_of_getElem? (i := 232) rfl)) rfl
theorem ml_X10_194 : Cond.methodLink RX10 194 yX10_sees ∈ gw := gw_at 1032 (by decide +kernel) rfl
theorem im_X10_sees : Cond.instanceMethod yX10_sees ∈ gw := gw_at 1034 (by decide +kernel) rfl
theorem cd_X10_sees : Cond.code yX10_sees cX10_sees 3 none ∈ gw := gw_in (tb_4 (List.mem_of_getElem? (i := 236) rfl)) rfl
theorem ml_X10_197 : Cond.methodLink RX10 197 yX10_handlersFit ∈ gw := gw_at 1036 (by decide +kernel) rfl
theorem im_X10_handlersFit : Cond.instanceMethod yX10_handlersFit ∈ gw := gw_at 1038 (by decide +kernel) rfl
theorem cd_X10_handlersFit : Cond.code yX10_handlersFit cX10_handlersFit 8 (some .boolean) ∈ gw := gw_in (tb_5 (List.mem_of_getElem? (i := 0) rfl)) rfl
theorem ml_X10_200 : Cond.methodLink RX10 200 yX10_does ∈ gw := gw_at 1040 (by decide +kernel) rfl
theorem im_X10_does : Cond.instanceMethod yX10_does ∈ gw := gw_at 1042 (by decide +kernel) rfl
theorem cd_X10_does : Cond.code yX10_does cX10_does 6 (some .boolean) ∈ gw := gw_in (tb_5 (List.mem_of_getElem? (i := 4) rfl)) rfl
theorem ml_X10_148 : Cond.methodLink RX10 148 yX10_push ∈ gw := gw_at 1044 (by decide +kernel) rfl
theorem im_X10_push : Cond.instanceMethod yX10_push ∈ gw := gw_at 1046 (by decide +kernel) rfl
theorem cd_X10_push : Cond.code yX10_push cX10_push 2 (some .boolean) ∈ gw := gw_in (tb_5 (List.mem_of_getElem? (i := 8) rfl)) rfl
theorem ml_X10_154 : Cond.methodLink RX10 154 yX10_pushLong ∈ gw := gw_at 1048 (by decide +kernel) rfl
theorem im_X10_pushLong : Cond.instanceMethod yX10_pushLong ∈ gw := gw_at 1050 (by decide +kernel) rfl
theorem cd_X10_pushLong : Cond.code yX10_pushLong cX10_pushLong 1 (some .boolean) ∈ gw := gw_in (tb_5 (List.mem_of_getElem? (i := 12) rfl)) rfl
theorem ml_X10_151 : Cond.methodLink RX10 151 yX10_isOnePlace ∈ gw := gw_at 1052 (by decide +kernel) rfl
theorem st_X10_isOnePlace : Cond.static yX10_isOnePlace ∈ gw := gw_at 1053 (by decide +kernel) rfl
theorem cd_X10_isOnePlace : Cond.code yX10_isOnePlace cX10_isOnePlace 1 (some .boolean) ∈ gw := gw_in (tb_5 (List.mem_of_getElem? (i := 15) rfl)) rfl
theorem ml_X10_158 : Cond.methodLink RX10 158 yX10_isOneOnTop ∈ gw := gw_at 1055 (by decide +kernel) rfl
theorem im_X10_isOneOnTop : Cond.instanceMethod yX10_isOneOnTop ∈ gw := gw_at 1057 (by decide +kernel) rfl
theorem cd_X10_isOneOnTop : Cond.code yX10_isOneOnTop cX10_isOneOnTop 2 (some .boolean) ∈ gw := gw_in (tb_5 (List.mem_of_getElem? (i := 19) rfl)) rfl
theorem ml_X10_161 : Cond.methodLink RX10 161 yX10_local ∈ gw := gw_at 1059 (by decide +kernel) rfl
theorem im_X10_local : Cond.instanceMethod yX10_local ∈ gw := gw_at 1061 (by decide +kernel) rfl
theorem cd_X10_local : Cond.code yX10_local cX10_local 3 none ∈ gw := gw_in (tb_5 (List.mem_of_getElem? (i := 23) rfl)) rfl
theorem kl_X10_165 : Cond.constantLong RX10 165 (6) ∈ gw := gw_at 1063 (by decide +kernel) rfl
theorem ml_X10_167 : Cond.methodLink RX10 167 yX10_popLong ∈ gw := gw_at 1064 (by decide +kernel) rfl
theorem im_X10_popLong : Cond.instanceMethod yX10_popLong ∈ gw := gw_at 1066 (by decide +kernel) rfl
theorem cd_X10_popLong : Cond.code yX10_popLong cX10_popLong 1 (some .boolean) ∈ gw := gw_in (tb_5 (List.mem_of_getElem? (i := 28) rfl)) rfl
theorem ml_X10_170 : Cond.methodLink RX10 170 yX10_pop ∈ gw := gw_at 1068 (by decide +kernel) rfl
