theorem im_X10_pop : Cond.instanceMethod yX10_pop ∈ gw := gw_at 1070 (by decide +kernel) rfl
theorem cd_X10_pop : Cond.code yX10_pop cX10_pop 2 (some .boolean) ∈ gw := gw_in (tb_5 (List.mem_of_getElem? (i := 32) rfl)) rfl
theorem ml_X10_173 : Cond.methodLink RX10 173 yX10_isNew ∈ gw := gw_at 1072 (by decide +kernel) rfl
theorem im_X10_isNew : Cond.instanceMethod yX10_isNew ∈ gw := gw_at 1074 (by decide +kernel) rfl
theorem cd_X10_isNew : Cond.code yX10_isNew cX10_isNew 5 (some .boolean) ∈ gw := gw_in (tb_5 (List.mem_of_getElem? (i := 36) rfl)) rfl
theorem ml_X10_177 : Cond.methodLink RX10 177 yX10_isMade ∈ gw := gw_at 1076 (by decide +kernel) rfl
theorem im_X10_isMade : Cond.instanceMethod yX10_isMade ∈ gw := gw_at 1078 (by decide +kernel) rfl
theorem cd_X10_isMade : Cond.code yX10_isMade cX10_isMade 7 (some .boolean) ∈ gw := gw_in (tb_5 (List.mem_of_getElem? (i := 40) rfl)) rfl
theorem ml_X10_180 : Cond.methodLink RX10 180 yX10_doesMore ∈ gw := gw_at 1080 (by decide +kernel) rfl
theorem im_X10_doesMore : Cond.instanceMethod yX10_doesMore ∈ gw := gw_at 1082 (by decide +kernel) rfl
theorem cd_X10_doesMore : Cond.code yX10_doesMore cX10_doesMore 10 (some .boolean) ∈ gw := gw_in (tb_5 (List.mem_of_getElem? (i := 44) rfl)) rfl
theorem ml_X10_203 : Cond.methodLink RX10 203 yX10_leads ∈ gw := gw_at 1084 (by decide +kernel) rfl
theorem st_X10_leads : Cond.static yX10_leads ∈ gw := gw_at 1085 (by decide +kernel) rfl
theorem cd_X10_leads : Cond.code yX10_leads cX10_leads 1 (some .boolean) ∈ gw := gw_in (tb_5 (List.mem_of_getElem? (i := 47) rfl)) rfl
theorem kl_X10_184 : Cond.constantLong RX10 184 (29) ∈ gw := gw_at 1087 (by decide +kernel) rfl
theorem kl_X10_186 : Cond.constantLong RX10 186 (31) ∈ gw := gw_at 1088 (by decide +kernel) rfl
theorem ml_X10_206 : Cond.methodLink RX10 206 yX10_isLast ∈ gw := gw_at 1089 (by decide +kernel) rfl
theorem st_X10_isLast : Cond.static yX10_isLast ∈ gw := gw_at 1090 (by decide +kernel) rfl
theorem cd_X10_isLast : Cond.code yX10_isLast cX10_isLast 1 (some .boolean) ∈ gw := gw_in (tb_5 (List.mem_of_getElem? (i := 52) rfl)) rfl
theorem ml_L_47 : Cond.methodLink RL 47 yX10_join ∈ gw := gw_at 1092 (by decide +kernel) rfl
theorem im_X10_join : Cond.instanceMethod yX10_join ∈ gw := gw_at 1093 (by decide +kernel) rfl
theorem se_X10_join : Cond.selects RX10 yX10_join yX10_join ∈ gw := gw_at 1094 (by decide +kernel) rfl
theorem cd_X10_join : Cond.code yX10_join cX10_join 3 (some .int) ∈ gw := gw_in (tb_5 (List.mem_of_getElem? (i := 56) rfl)) rfl
theorem ml_X10_231 : Cond.methodLink RX10 231 yX10_wrongJoined ∈ gw := gw_at 1096 (by decide +kernel) rfl
theorem im_X10_wrongJoined : Cond.instanceMethod yX10_wrongJoined ∈ gw := gw_at 1098 (by decide +kernel) rfl
theorem cd_X10_wrongJoined : Cond.code yX10_wrongJoined cX10_wrongJoined 4 (some .int) ∈ gw := gw_in (tb_5 (List.mem_of_getElem? (i := 60) rfl)) rfl
theorem ml_X10_228 : Cond.methodLink RX10 228 yX10_goesOn ∈ gw := gw_at 1100 (by decide +kernel) rfl
theorem im_X10_goesOn : Cond.instanceMethod yX10_goesOn ∈ gw := gw_at 1102 (by decide +kernel) rfl
theorem cd_X10_goesOn : Cond.code yX10_goesOn cX10_goesOn 7 (some .boolean) ∈ gw := gw_in (tb_5 (List.mem_of_getElem? (i := 64) rfl)) rfl
theorem ml_X10_216 : Cond.methodLink RX10 216 yX10_takes ∈ gw := gw_at 1104 (by decide +kernel) rfl
theorem im_X10_takes : Cond.instanceMethod yX10_takes ∈ gw := gw_at 1106 (by decide +kernel) rfl
theorem cd_X10_takes : Cond.code yX10_takes cX10_takes 3 none ∈ gw := gw_in (tb_5 (List.mem_of_getElem? (i := 68) rfl)) rfl
theorem ml_X10_219 : Cond.methodLink RX10 219 yX10_comesTo ∈ gw := gw_at 1108 (by decide +kernel) rfl
theorem im_X10_comesTo : Cond.instanceMethod yX10_comesTo ∈ gw := gw_at 1110 (by decide +kernel) rfl
theorem cd_X10_comesTo : Cond.code yX10_comesTo cX10_comesTo 5 (some .boolean) ∈ gw := gw_in (tb_5 (List.mem_of_getElem? (i := 72) rfl)) rfl
theorem ml_X10_222 : Cond.methodLink RX10 222 yX10_ahead ∈ gw := gw_at 1112 (by decide +kernel) rfl
theorem im_X10_ahead : Cond.instanceMethod yX10_ahead ∈ gw := gw_at 1114 (by decide +kernel) rfl
theorem cd_X10_ahead : Cond.code yX10_ahead cX10_ahead 3 none ∈ gw := gw_in (tb_5 (List.mem_of_getElem? (i := 76) rfl)) rfl
theorem ml_L_52 : Cond.methodLink RL 52 yX10_kind ∈ gw := gw_at 1116 (by decide +kernel) rfl
theorem im_X10_kind : Cond.instanceMethod yX10_kind ∈ gw := gw_at 1117 (by decide +kernel) rfl
theorem se_X10_kind : Cond.selects RX10 yX10_kind yX10_kind ∈ gw := gw_at 1118 (by decide +kernel) rfl
theorem cd_X10_kind : Cond.code yX10_kind cX10_kind 3 (some .int) ∈ gw := gw_in (tb_5 (List.mem_of_getElem? (i := 80) rfl)) rfl
theorem ki_X10_234 : Cond.constant RX10 234 (-99999999) ∈ gw := gw_at 1120 (by decide +kernel) rfl
theorem ml_L_57 : Cond.methodLink RL 57 yX10_rounds ∈ gw := gw_at 1121 (by decide +kernel) rfl
theorem im_X10_rounds : Cond.instanceMethod yX10_rounds ∈ gw := gw_at 1122 (by decide +kernel) rfl
theorem se_X10_rounds : Cond.selects RX10 yX10_rounds yX10_rounds ∈ gw := gw_at 1123 (by decide +kernel) rfl
theorem cd_X10_rounds : Cond.code yX10_rounds cX10_rounds 1 (some .int) ∈ gw := gw_in (tb_5 (List.mem_of_getElem? (i := 85) rfl)) rfl
theorem ml_L_66 : Cond.methodLink RL 66 yX10_run ∈ gw := gw_at 1125 (by decide +kernel) rfl
theorem im_X10_run : Cond.instanceMethod yX10_run ∈ gw := gw_at 1126 (by decide +kernel) rfl
theorem se_X10_run : Cond.selects RX10 yX10_run yX10_run ∈ gw := gw_at 1127 (by decide +kernel) rfl
theorem cd_X10_run : Cond.code yX10_run cX10_run 7 (some .int) ∈ gw := gw_in (tb_5 (List.mem_of_getElem? (i := 89) rfl)) rfl
theorem ml_X10_242 : Cond.methodLink RX10 242 yX10_areRight ∈ gw := gw_at 1129 (by decide +kernel) rfl
theorem im_X10_areRight : Cond.instanceMethod yX10_areRight ∈ gw := gw_at 1131 (by decide +kernel) rfl
theorem cd_X10_areRight : Cond.code yX10_areRight cX10_areRight 5 (some .boolean) ∈ gw := gw_in (tb_5 (List.mem_of_getElem? (i := 93) rfl)) rfl
theorem ml_X10_266 : Cond.methodLink RX10 266 yX10_works ∈ gw := gw_at 1133 (by decide +kernel) rfl
theorem im_X10_works : Cond.instanceMethod yX10_works ∈ gw := gw_at 1135 (by decide +kernel) rfl
theorem cd_X10_works : Cond.code yX10_works cX10_works 7 (some .int) ∈ gw := gw_in (tb_5 (List.mem_of_getElem? (i := 97) rfl)) rfl
theorem ml_X10_280 : Cond.methodLink RX10 280 yX10_simple ∈ gw := gw_at 1137 (by decide +kernel) rfl
theorem im_X10_simple : Cond.instanceMethod yX10_simple ∈ gw := gw_at 1139 (by decide +kernel) rfl
theorem cd_X10_simple : Cond.code yX10_simple cX10_simple 17 (some .int) ∈ gw := gw_in (tb_5 (List.mem_of_getElem? (i := 101) rfl)) rfl
theorem ml_X10_238 : Cond.methodLink RX10 238 yX10_put ∈ gw := gw_at 1141 (by decide +kernel) rfl
theorem im_X10_put : Cond.instanceMethod yX10_put ∈ gw := gw_at 1143 (by decide +kernel) rfl
theorem cd_X10_put : Cond.code yX10_put cX10_put 3 none ∈ gw := gw_in (tb_5 (List.mem_of_getElem? (i := 105) rfl)) rfl
theorem ml_X10_290 : Cond.methodLink RX10 290 yX10_putLong ∈ gw := gw_at 1145 (by decide +kernel) rfl
theorem im_X10_putLong : Cond.instanceMethod yX10_putLong ∈ gw := gw_at 1147 (by decide +kernel) rfl
theorem cd_X10_putLong : Cond.code yX10_putLong cX10_putLong 3 none ∈ gw := gw_in (tb_5 (List.mem_of_getElem? (i := 109) rfl)) rfl
theorem ml_X10_293 : Cond.methodLink RX10 293 yX10_take ∈ gw := gw_at 1149 (by decide +kernel) rfl
theorem im_X10_take : Cond.instanceMethod yX10_take ∈ gw := gw_at 1151 (by decide +kernel) rfl
theorem cd_X10_take : Cond.code yX10_take cX10_take 1 (some .long) ∈ gw := gw_in (tb_5 (List.mem_of_getElem? (i := 113) rfl)) rfl
theorem ml_X10_297 : Cond.methodLink RX10 297 yX10_takeLong ∈ gw := gw_at 1153 (by decide +kernel) rfl
theorem im_X10_takeLong : Cond.instanceMethod yX10_takeLong ∈ gw := gw_at 1155 (by decide +kernel) rfl
theorem cd_X10_takeLong : Cond.code yX10_takeLong cX10_takeLong 1 (some .long) ∈ gw := gw_in (tb_5 (List.mem_of_getElem? (i := 117) rfl)) rfl
theorem kl_X10_276 : Cond.constantLong RX10 276 (2) ∈ gw := gw_at 1157 (by decide +kernel) rfl
theorem ml_X10_300 : Cond.methodLink RX10 300 yX10_arith ∈ gw := gw_at 1158 (by decide +kernel) rfl
theorem st_X10_arith : Cond.static yX10_arith ∈ gw := gw_at 1159 (by decide +kernel) rfl
theorem cd_X10_arith : Cond.code yX10_arith cX10_arith 4 (some .int) ∈ gw := gw_in (tb_5 (List.mem_of_getElem? (i := 121) rfl)) rfl
theorem kl_X10_278 : Cond.constantLong RX10 278 (3) ∈ gw := gw_at 1161 (by decide +kernel) rfl
theorem ml_X10_304 : Cond.methodLink RX10 304 yX10_arithLong ∈ gw := gw_at 1162 (by decide +kernel) rfl
theorem st_X10_arithLong : Cond.static yX10_arithLong ∈ gw := gw_at 1163 (by decide +kernel) rfl
theorem cd_X10_arithLong : Cond.code yX10_arithLong cX10_arithLong 6 (some .long) ∈ gw := gw_in (tb_5 (List.mem_of_getElem? (i := 125) rfl)) rfl
theorem ml_X10_308 : Cond.methodLink RX10 308 yX10_make ∈ gw := gw_at 1165 (by decide +kernel) rfl
theorem im_X10_make : Cond.instanceMethod yX10_make ∈ gw := gw_at 1167 (by decide +kernel) rfl
theorem cd_X10_make : Cond.code yX10_make cX10_make 4 (some .int) ∈ gw := gw_in (tb_5 (List.mem_of_getElem? (i := 129) rfl)) rfl
theorem ml_X10_284 : Cond.methodLink RX10 284 yX10_ofThings ∈ gw := gw_at 1169 (by decide +kernel) rfl
theorem im_X10_ofThings : Cond.instanceMethod yX10_ofThings ∈ gw := gw_at 1171 (by decide +kernel) rfl
theorem cd_X10_ofThings : Cond.code yX10_ofThings cX10_ofThings 9 (some .int) ∈ gw := gw_in (tb_5 (List.mem_of_getElem? (i := 133) rfl)) rfl
theorem ml_X10_311 : Cond.methodLink RX10 311 yX10_isOf ∈ gw := gw_at 1173 (by decide +kernel) rfl
theorem im_X10_isOf : Cond.instanceMethod yX10_isOf ∈ gw := gw_at 1175 (by decide +kernel) rfl
theorem cd_X10_isOf : Cond.code yX10_isOf cX10_isOf 3 (some .boolean) ∈ gw := gw_in (tb_5 (List.mem_of_getElem? (i := 137) rfl)) rfl
theorem ml_X10_314 : Cond.methodLink RX10 314 yX10_worth ∈ gw := gw_at 1177 (by decide +kernel) rfl
theorem im_X10_worth : Cond.instanceMethod yX10_worth ∈ gw := gw_at 1179 (by decide +kernel) rfl
theorem cd_X10_worth : Cond.code yX10_worth cX10_worth 5 (some .int) ∈ gw := gw_in (tb_5 (List.mem_of_getElem? (i := 141) rfl)) rfl
theorem ml_X10_287 : Cond.methodLink RX10 287 yX10_others ∈ gw := gw_at 1181 (by decide +kernel) rfl
theorem im_X10_others : Cond.instanceMethod yX10_others ∈ gw := gw_at 1183 (by decide +kernel) rfl
theorem cd_X10_others : Cond.code yX10_others cX10_others 7 (some .int) ∈ gw := gw_in (tb_5 (List.mem_of_getElem? (i := 145) rfl)) rfl
theorem ml_X10_317 : Cond.methodLink RX10 317 yX10_calls ∈ gw := gw_at 1185 (by decide +kernel) rfl
theorem im_X10_calls : Cond.instanceMethod yX10_calls ∈ gw := gw_at 1187 (by decide +kernel) rfl
theorem cd_X10_calls : Cond.code yX10_calls cX10_calls 3 none ∈ gw := gw_in (tb_5 (List.mem_of_getElem? (i := 149) rfl)) rfl
theorem ml_X10_270 : Cond.methodLink RX10 270 yX10_after ∈ gw := gw_at 1189 (by decide +kernel) rfl
theorem im_X10_after : Cond.instanceMethod yX10_after ∈ gw := gw_at 1191 (by decide +kernel) rfl
theorem cd_X10_after : Cond.code yX10_after cX10_after 7 (some .int) ∈ gw := gw_in (tb_5 (List.mem_of_getElem? (i := 153) rfl)) rfl
theorem ml_L_70 : Cond.methodLink RL 70 yX10_answer ∈ gw := gw_at 1193 (by decide +kernel) rfl
theorem im_X10_answer : Cond.instanceMethod yX10_answer ∈ gw := gw_at 1194 (by decide +kernel) rfl
theorem se_X10_answer : Cond.selects RX10 yX10_answer yX10_answer ∈ gw := gw_at 1195 (by decide +kernel) rfl
theorem cd_X10_answer : Cond.code yX10_answer cX10_answer 1 (some .int) ∈ gw := gw_in (tb_5 (List.mem_of_getElem? (i := 157) rfl)) rfl
theorem ml_L_74 : Cond.methodLink RL 74 yX10_told ∈ gw := gw_at 1197 (by decide +kernel) rfl
theorem im_X10_told : Cond.instanceMethod yX10_told ∈ gw := gw_at 1198 (by decide +kernel) rfl
theorem se_X10_told : Cond.selects RX10 yX10_told yX10_told ∈ gw := gw_at 1199 (by decide +kernel) rfl
theorem cd_X10_told : Cond.code yX10_told cX10_told 2 (some .int) ∈ gw := gw_in (tb_5 (List.mem_of_getElem? (i := 161) rfl)) rfl
theorem ml_L_78 : Cond.methodLink RL 78 yX10_count ∈ gw := gw_at 1201 (by decide +kernel) rfl
theorem im_X10_count : Cond.instanceMethod yX10_count ∈ gw := gw_at 1202 (by decide +kernel) rfl
theorem se_X10_count : Cond.selects RX10 yX10_count yX10_count ∈ gw := gw_at 1203 (by decide +kernel) rfl
theorem cd_X10_count : Cond.code yX10_count cX10_count 3 (some .int) ∈ gw := gw_in (tb_5 (List.mem_of_getElem? (i := 165) rfl)) rfl
theorem kl_L_18 : Cond.constantLong RL 18 (4294967295) ∈ gw := gw_at 1205 (by decide +kernel) rfl
theorem se_X2_forget : Cond.selects RX2 yX2_forget yX2_forget ∈ gw := gw_at 0 (by decide +kernel) rfl
theorem se_X8_moves : Cond.selects RX8 yX8_moves yX8_moves ∈ gw := gw_at 1 (by decide +kernel) rfl
theorem se_X8_stores : Cond.selects RX8 yX8_stores yX8_stores ∈ gw := gw_at 2 (by decide +kernel) rfl
theorem se_X8_holdsLong : Cond.selects RX8 yX8_holdsLong yX8_holdsLong ∈ gw := gw_at 3 (by decide +kernel) rfl
theorem se_X8_storesLong : Cond.selects RX8 yX8_storesLong yX8_storesLong ∈ gw := gw_at 4 (by decide +kernel) rfl
theorem se_X8_reckons : Cond.selects RX8 yX8_reckons yX8_reckons ∈ gw := gw_at 5 (by decide +kernel) rfl
theorem se_X8_begins : Cond.selects RX8 yX8_begins yX8_begins ∈ gw := gw_at 6 (by decide +kernel) rfl
theorem se_X8_finishes : Cond.selects RX8 yX8_finishes yX8_finishes ∈ gw := gw_at 7 (by decide +kernel) rfl
theorem se_X8_usesArray : Cond.selects RX8 yX8_usesArray yX8_usesArray ∈ gw := gw_at 8 (by decide +kernel) rfl
theorem se_X8_takes : Cond.selects RX8 yX8_takes yX8_takes ∈ gw := gw_at 9 (by decide +kernel) rfl
theorem se_X8_usesObject : Cond.selects RX8 yX8_usesObject yX8_usesObject ∈ gw := gw_at 10 (by decide +kernel) rfl
theorem se_X8_turns : Cond.selects RX8 yX8_turns yX8_turns ∈ gw := gw_at 11 (by decide +kernel) rfl
theorem se_X8_calls : Cond.selects RX8 yX8_calls yX8_calls ∈ gw := gw_at 12 (by decide +kernel) rfl
theorem se_X8_goesElsewhere : Cond.selects RX8 yX8_goesElsewhere yX8_goesElsewhere ∈ gw := gw_at 13 (by decide +kernel) rfl
theorem se_X2_leadsToFrame : Cond.selects RX2 yX2_leadsToFrame yX2_leadsToFrame ∈ gw := gw_at 14 (by decide +kernel) rfl
theorem se_X2_handlersFit : Cond.selects RX2 yX2_handlersFit yX2_handlersFit ∈ gw := gw_at 15 (by decide +kernel) rfl
theorem se_X2_arrives : Cond.selects RX2 yX2_arrives yX2_arrives ∈ gw := gw_at 16 (by decide +kernel) rfl
theorem se_X2_handsOn : Cond.selects RX2 yX2_handsOn yX2_handsOn ∈ gw := gw_at 17 (by decide +kernel) rfl
theorem se_X4_enter : Cond.selects RX4 yX4_enter yX4_enter ∈ gw := gw_at 18 (by decide +kernel) rfl
theorem se_X4_doNext : Cond.selects RX4 yX4_doNext yX4_doNext ∈ gw := gw_at 19 (by decide +kernel) rfl
theorem se_X4_does : Cond.selects RX4 yX4_does yX4_does ∈ gw := gw_at 20 (by decide +kernel) rfl
theorem se_X4_moves : Cond.selects RX4 yX4_moves yX4_moves ∈ gw := gw_at 21 (by decide +kernel) rfl
theorem se_X4_push : Cond.selects RX4 yX4_push yX4_push ∈ gw := gw_at 22 (by decide +kernel) rfl
theorem se_X4_pushLong : Cond.selects RX4 yX4_pushLong yX4_pushLong ∈ gw := gw_at 23 (by decide +kernel) rfl
theorem se_X4_pop : Cond.selects RX4 yX4_pop yX4_pop ∈ gw := gw_at 24 (by decide +kernel) rfl
theorem se_X4_popLong : Cond.selects RX4 yX4_popLong yX4_popLong ∈ gw := gw_at 25 (by decide +kernel) rfl
theorem se_X4_reckons : Cond.selects RX4 yX4_reckons yX4_reckons ∈ gw := gw_at 26 (by decide +kernel) rfl
theorem se_X4_relatesInts : Cond.selects RX4 yX4_relatesInts yX4_relatesInts ∈ gw := gw_at 27 (by decide +kernel) rfl
theorem se_X4_popInt : Cond.selects RX4 yX4_popInt yX4_popInt ∈ gw := gw_at 28 (by decide +kernel) rfl
theorem se_X4_relatesLongs : Cond.selects RX4 yX4_relatesLongs yX4_relatesLongs ∈ gw := gw_at 29 (by decide +kernel) rfl
theorem se_X4_makes : Cond.selects RX4 yX4_makes yX4_makes ∈ gw := gw_at 30 (by decide +kernel) rfl
theorem se_X4_pushNew : Cond.selects RX4 yX4_pushNew yX4_pushNew ∈ gw := gw_at 31 (by decide +kernel) rfl
theorem se_X4_end : Cond.selects RX4 yX4_end yX4_end ∈ gw := gw_at 32 (by decide +kernel) rfl
theorem se_X4_usesArray : Cond.selects RX4 yX4_usesArray yX4_usesArray ∈ gw := gw_at 33 (by decide +kernel) rfl
theorem se_X4_asks : Cond.selects RX4 yX4_asks yX4_asks ∈ gw := gw_at 34 (by decide +kernel) rfl
theorem se_X4_usesObject : Cond.selects RX4 yX4_usesObject yX4_usesObject ∈ gw := gw_at 35 (by decide +kernel) rfl
theorem se_X4_turns : Cond.selects RX4 yX4_turns yX4_turns ∈ gw := gw_at 36 (by decide +kernel) rfl
theorem se_X4_leads : Cond.selects RX4 yX4_leads yX4_leads ∈ gw := gw_at 37 (by decide +kernel) rfl
theorem se_X4_jumpsIf : Cond.selects RX4 yX4_jumpsIf yX4_jumpsIf ∈ gw := gw_at 38 (by decide +kernel) rfl
theorem se_X4_returns : Cond.selects RX4 yX4_returns yX4_returns ∈ gw := gw_at 39 (by decide +kernel) rfl
theorem se_X4_calls : Cond.selects RX4 yX4_calls yX4_calls ∈ gw := gw_at 40 (by decide +kernel) rfl
theorem se_X4_arises : Cond.selects RX4 yX4_arises yX4_arises ∈ gw := gw_at 41 (by decide +kernel) rfl
theorem se_X4_catches : Cond.selects RX4 yX4_catches yX4_catches ∈ gw := gw_at 42 (by decide +kernel) rfl
theorem se_X10_isMethod : Cond.selects RX10 yX10_isMethod yX10_isMethod ∈ gw := gw_at 43 (by decide +kernel) rfl
theorem se_X10_changed : Cond.selects RX10 yX10_changed yX10_changed ∈ gw := gw_at 44 (by decide +kernel) rfl
theorem se_X10_wrongByFrames : Cond.selects RX10 yX10_wrongByFrames yX10_wrongByFrames ∈ gw := gw_at 45 (by decide +kernel) rfl
theorem se_X10_begins : Cond.selects RX10 yX10_begins yX10_begins ∈ gw := gw_at 46 (by decide +kernel) rfl
theorem se_X10_goesToFrame : Cond.selects RX10 yX10_goesToFrame yX10_goesToFrame ∈ gw := gw_at 47 (by decide +kernel) rfl
theorem se_X10_sees : Cond.selects RX10 yX10_sees yX10_sees ∈ gw := gw_at 48 (by decide +kernel) rfl
theorem se_X10_handlersFit : Cond.selects RX10 yX10_handlersFit yX10_handlersFit ∈ gw := gw_at 49 (by decide +kernel) rfl
theorem se_X10_does : Cond.selects RX10 yX10_does yX10_does ∈ gw := gw_at 50 (by decide +kernel) rfl
theorem se_X10_push : Cond.selects RX10 yX10_push yX10_push ∈ gw := gw_at 51 (by decide +kernel) rfl
theorem se_X10_pushLong : Cond.selects RX10 yX10_pushLong yX10_pushLong ∈ gw := gw_at 52 (by decide +kernel) rfl
theorem se_X10_isOneOnTop : Cond.selects RX10 yX10_isOneOnTop yX10_isOneOnTop ∈ gw := gw_at 53 (by decide +kernel) rfl
theorem se_X10_local : Cond.selects RX10 yX10_local yX10_local ∈ gw := gw_at 54 (by decide +kernel) rfl
theorem se_X10_popLong : Cond.selects RX10 yX10_popLong yX10_popLong ∈ gw := gw_at 55 (by decide +kernel) rfl
theorem se_X10_pop : Cond.selects RX10 yX10_pop yX10_pop ∈ gw := gw_at 56 (by decide +kernel) rfl
theorem se_X10_isNew : Cond.selects RX10 yX10_isNew yX10_isNew ∈ gw := gw_at 57 (by decide +kernel) rfl
theorem se_X10_isMade : Cond.selects RX10 yX10_isMade yX10_isMade ∈ gw := gw_at 58 (by decide +kernel) rfl
theorem se_X10_doesMore : Cond.selects RX10 yX10_doesMore yX10_doesMore ∈ gw := gw_at 59 (by decide +kernel) rfl
theorem se_X10_wrongJoined : Cond.selects RX10 yX10_wrongJoined yX10_wrongJoined ∈ gw := gw_at 60 (by decide +kernel) rfl
theorem se_X10_goesOn : Cond.selects RX10 yX10_goesOn yX10_goesOn ∈ gw := gw_at 61 (by decide +kernel) rfl
theorem se_X10_takes : Cond.selects RX10 yX10_takes yX10_takes ∈ gw := gw_at 62 (by decide +kernel) rfl
theorem se_X10_comesTo : Cond.selects RX10 yX10_comesTo yX10_comesTo ∈ gw := gw_at 63 (by decide +kernel) rfl
theorem se_X10_ahead : Cond.selects RX10 yX10_ahead yX10_ahead ∈ gw := gw_at 64 (by decide +kernel) rfl
theorem se_X10_areRight : Cond.selects RX10 yX10_areRight yX10_areRight ∈ gw := gw_at 65 (by decide +kernel) rfl
theorem se_X10_works : Cond.selects RX10 yX10_works yX10_works ∈ gw := gw_at 66 (by decide +kernel) rfl
theorem se_X10_simple : Cond.selects RX10 yX10_simple yX10_simple ∈ gw := gw_at 67 (by decide +kernel) rfl
theorem se_X10_put : Cond.selects RX10 yX10_put yX10_put ∈ gw := gw_at 68 (by decide +kernel) rfl
theorem se_X10_putLong : Cond.selects RX10 yX10_putLong yX10_putLong ∈ gw := gw_at 69 (by decide +kernel) rfl
theorem se_X10_take : Cond.selects RX10 yX10_take yX10_take ∈ gw := gw_at 70 (by decide +kernel) rfl
theorem se_X10_takeLong : Cond.selects RX10 yX10_takeLong yX10_takeLong ∈ gw := gw_at 71 (by decide +kernel) rfl
theorem se_X10_make : Cond.selects RX10 yX10_make yX10_make ∈ gw := gw_at 72 (by decide +kernel) rfl
theorem se_X10_ofThings : Cond.selects RX10 yX10_ofThings yX10_ofThings ∈ gw := gw_at 73 (by decide +kernel) rfl
theorem se_X10_isOf : Cond.selects RX10 yX10_isOf yX10_isOf ∈ gw := gw_at 74 (by decide +kernel) rfl
theorem se_X10_worth : Cond.selects RX10 yX10_worth yX10_worth ∈ gw := gw_at 75 (by decide +kernel) rfl
theorem se_X10_others : Cond.selects RX10 yX10_others yX10_others ∈ gw := gw_at 76 (by decide +kernel) rfl
theorem se_X10_calls : Cond.selects RX10 yX10_calls yX10_calls ∈ gw := gw_at 77 (by decide +kernel) rfl
theorem se_X10_after : Cond.selects RX10 yX10_after yX10_after ∈ gw := gw_at 78 (by decide +kernel) rfl
