theorem ini_L : Cond.initialized RL ∈ gw := gw_at 79 (by decide +kernel) rfl
theorem ini_X9 : Cond.initialized RX9 ∈ gw := gw_at 80 (by decide +kernel) rfl
theorem ini_X7 : Cond.initialized RX7 ∈ gw := gw_at 81 (by decide +kernel) rfl
theorem ini_X2 : Cond.initialized RX2 ∈ gw := gw_at 82 (by decide +kernel) rfl
theorem ini_X6 : Cond.initialized RX6 ∈ gw := gw_at 83 (by decide +kernel) rfl
theorem ini_X8 : Cond.initialized RX8 ∈ gw := gw_at 84 (by decide +kernel) rfl
theorem ini_X4 : Cond.initialized RX4 ∈ gw := gw_at 85 (by decide +kernel) rfl
theorem ini_X1 : Cond.initialized RX1 ∈ gw := gw_at 86 (by decide +kernel) rfl
theorem ini_X10 : Cond.initialized RX10 ∈ gw := gw_at 87 (by decide +kernel) rfl
theorem ini_X0 : Cond.initialized RX0 ∈ gw := gw_at 88 (by decide +kernel) rfl
theorem ini_X3 : Cond.initialized RX3 ∈ gw := gw_at 89 (by decide +kernel) rfl
theorem ini_J10 : Cond.initialized RJ10 ∈ gw := gw_at 90 (by decide +kernel) rfl
theorem cl_L_7 : Cond.classLink RL 7 RX9 ∈ gw := gw_at 91 (by decide +kernel) rfl
theorem ins_X9 : Cond.instantiable RX9 3 ∈ gw := gw_at 92 (by decide +kernel) rfl
theorem ml_L_9 : Cond.methodLink RL 9 yX9_init ∈ gw := gw_at 93 (by decide +kernel) rfl
theorem im_X9_init : Cond.instanceMethod yX9_init ∈ gw := gw_at 94 (by decide +kernel) rfl
theorem cd_X9_init : Cond.code yX9_init cX9_init 1 none ∈ gw := gw_in (tb_1 (List.mem_of_getElem? (i := 16) rfl)) rfl
theorem ml_X9_1 : Cond.methodLink RX9 1 objectInit ∈ gw := gw_at 96 (by decide +kernel) rfl
theorem im_objectInit : Cond.instanceMethod objectInit ∈ gw := gw_at 97 (by decide +kernel) rfl
theorem cd_objectInit : Cond.code objectInit ⟨#[0xb1]⟩ 1 none ∈ gw := gw_in (tb_1 (List.mem_of_getElem? (i := 19) rfl)) rfl
theorem cl_X9_7 : Cond.classLink RX9 7 RX7 ∈ gw := gw_at 99 (by decide +kernel) rfl
theorem ins_X7 : Cond.instantiable RX7 2 ∈ gw := gw_at 100 (by decide +kernel) rfl
theorem im_X7_init : Cond.instanceMethod yX7_init ∈ gw := gw_at 102 (by decide +kernel) rfl
theorem cd_X7_init : Cond.code yX7_init cX7_init 1 none ∈ gw := gw_in (tb_1 (List.mem_of_getElem? (i := 24) rfl)) rfl
theorem ml_X7_3 : Cond.methodLink RX7 3 objectInit ∈ gw := gw_at 104 (by decide +kernel) rfl
theorem cl_X7_11 : Cond.classLink RX7 11 RX0 ∈ gw := gw_at 105 (by decide +kernel) rfl
theorem fl_X7_13 : Cond.fieldLink RX7 13 "KindJudge$Program" "codes" "[LKindJudge$Code;" ∈ gw := gw_at 107 (by decide +kernel) rfl
theorem fl_X7_17 : Cond.fieldLink RX7 17 "KindJudge$Program" "size" "I" ∈ gw := gw_at 108 (by decide +kernel) rfl
theorem fl_X9_135 : Cond.fieldLink RX9 135 "KindJudge$Program" "size" "I" ∈ gw := gw_at 109 (by decide +kernel) rfl
theorem cl_X9_16 : Cond.classLink RX9 16 RX2 ∈ gw := gw_at 115 (by decide +kernel) rfl
theorem ins_X2 : Cond.instantiable RX2 6 ∈ gw := gw_at 116 (by decide +kernel) rfl
theorem ml_X9_18 : Cond.methodLink RX9 18 yX2_init ∈ gw := gw_at 117 (by decide +kernel) rfl
theorem im_X2_init : Cond.instanceMethod yX2_init ∈ gw := gw_at 118 (by decide +kernel) rfl
theorem cd_X2_init : Cond.code yX2_init cX2_init 2 none ∈ gw := gw_in (tb_1 (List.mem_of_getElem? (i := 40) rfl)) rfl
theorem ml_X2_3 : Cond.methodLink RX2 3 objectInit ∈ gw := gw_at 120 (by decide +kernel) rfl
theorem cl_X2_11 : Cond.classLink RX2 11 RX6 ∈ gw := gw_at 121 (by decide +kernel) rfl
theorem ins_X6 : Cond.instantiable RX6 2 ∈ gw := gw_at 123 (by decide +kernel) rfl
theorem im_X6_init : Cond.instanceMethod yX6_init ∈ gw := gw_at 125 (by decide +kernel) rfl
theorem cd_X6_init : Cond.code yX6_init cX6_init 1 none ∈ gw := gw_in (tb_1 (List.mem_of_getElem? (i := 47) rfl)) rfl
theorem ml_X6_1 : Cond.methodLink RX6 1 objectInit ∈ gw := gw_at 127 (by decide +kernel) rfl
theorem fl_X6_9 : Cond.fieldLink RX6 9 "KindJudge$Places" "kinds" "[I" ∈ gw := gw_at 128 (by decide +kernel) rfl
theorem fl_X2_40 : Cond.fieldLink RX2 40 "KindJudge$Places" "kinds" "[I" ∈ gw := gw_at 129 (by decide +kernel) rfl
theorem fl_X8_83 : Cond.fieldLink RX8 83 "KindJudge$Places" "kinds" "[I" ∈ gw := gw_at 130 (by decide +kernel) rfl
theorem fl_X6_13 : Cond.fieldLink RX6 13 "KindJudge$Places" "depth" "I" ∈ gw := gw_at 131 (by decide +kernel) rfl
theorem fl_X2_47 : Cond.fieldLink RX2 47 "KindJudge$Places" "depth" "I" ∈ gw := gw_at 132 (by decide +kernel) rfl
theorem fl_X0_59 : Cond.fieldLink RX0 59 "KindJudge$Places" "depth" "I" ∈ gw := gw_at 133 (by decide +kernel) rfl
theorem ac_int : Cond.arrayClass .int ∈ gw := gw_at 139 (by decide +kernel) rfl
theorem cl_X2_24 : Cond.classLink RX2 24 RX8 ∈ gw := gw_at 140 (by decide +kernel) rfl
theorem ins_X8 : Cond.instantiable RX8 3 ∈ gw := gw_at 141 (by decide +kernel) rfl
theorem im_X8_init : Cond.instanceMethod yX8_init ∈ gw := gw_at 143 (by decide +kernel) rfl
theorem cd_X8_init : Cond.code yX8_init cX8_init 1 none ∈ gw := gw_in (tb_1 (List.mem_of_getElem? (i := 65) rfl)) rfl
theorem ml_X8_1 : Cond.methodLink RX8 1 objectInit ∈ gw := gw_at 145 (by decide +kernel) rfl
theorem cl_X8_7 : Cond.classLink RX8 7 RX6 ∈ gw := gw_at 146 (by decide +kernel) rfl
theorem fl_X8_10 : Cond.fieldLink RX8 10 "KindJudge$Step" "now" "LKindJudge$Places;" ∈ gw := gw_at 148 (by decide +kernel) rfl
theorem fl_X2_54 : Cond.fieldLink RX2 54 "KindJudge$Step" "now" "LKindJudge$Places;" ∈ gw := gw_at 149 (by decide +kernel) rfl
theorem fl_X8_30 : Cond.fieldLink RX8 30 "KindJudge$Step" "leads" "I" ∈ gw := gw_at 150 (by decide +kernel) rfl
theorem fl_X2_92 : Cond.fieldLink RX2 92 "KindJudge$Step" "leads" "I" ∈ gw := gw_at 151 (by decide +kernel) rfl
theorem fl_X8_36 : Cond.fieldLink RX8 36 "KindJudge$Step" "falls" "Z" ∈ gw := gw_at 152 (by decide +kernel) rfl
theorem fl_X2_88 : Cond.fieldLink RX2 88 "KindJudge$Step" "falls" "Z" ∈ gw := gw_at 153 (by decide +kernel) rfl
theorem fl_X2_13 : Cond.fieldLink RX2 13 "KindJudge$Judging" "ahead" "[LKindJudge$Places;" ∈ gw := gw_at 161 (by decide +kernel) rfl
theorem fl_X2_20 : Cond.fieldLink RX2 20 "KindJudge$Judging" "caught" "LKindJudge$Places;" ∈ gw := gw_at 162 (by decide +kernel) rfl
theorem fl_X2_27 : Cond.fieldLink RX2 27 "KindJudge$Judging" "step" "LKindJudge$Step;" ∈ gw := gw_at 163 (by decide +kernel) rfl
theorem fl_X2_31 : Cond.fieldLink RX2 31 "KindJudge$Judging" "judgedSize" "I" ∈ gw := gw_at 164 (by decide +kernel) rfl
theorem fl_X2_119 : Cond.fieldLink RX2 119 "KindJudge$Judging" "changed" "Z" ∈ gw := gw_at 165 (by decide +kernel) rfl
theorem fl_X2_112 : Cond.fieldLink RX2 112 "KindJudge$Judging" "roundsGone" "I" ∈ gw := gw_at 166 (by decide +kernel) rfl
theorem fl_X9_85 : Cond.fieldLink RX9 85 "KindJudge$Judging" "roundsGone" "I" ∈ gw := gw_at 167 (by decide +kernel) rfl
theorem cl_X9_23 : Cond.classLink RX9 23 RX4 ∈ gw := gw_at 181 (by decide +kernel) rfl
theorem ins_X4 : Cond.instantiable RX4 14 ∈ gw := gw_at 182 (by decide +kernel) rfl
theorem im_X4_init : Cond.instanceMethod yX4_init ∈ gw := gw_at 184 (by decide +kernel) rfl
theorem cd_X4_init : Cond.code yX4_init cX4_init 1 none ∈ gw := gw_in (tb_1 (List.mem_of_getElem? (i := 106) rfl)) rfl
theorem ml_X4_5 : Cond.methodLink RX4 5 objectInit ∈ gw := gw_at 186 (by decide +kernel) rfl
theorem cl_X4_11 : Cond.classLink RX4 11 RX1 ∈ gw := gw_at 187 (by decide +kernel) rfl
theorem ins_X1 : Cond.instantiable RX1 5 ∈ gw := gw_at 188 (by decide +kernel) rfl
theorem im_X1_init : Cond.instanceMethod yX1_init ∈ gw := gw_at 190 (by decide +kernel) rfl
theorem cd_X1_init : Cond.code yX1_init cX1_init 1 none ∈ gw := gw_in (tb_1 (List.mem_of_getElem? (i := 112) rfl)) rfl
theorem ml_X1_1 : Cond.methodLink RX1 1 objectInit ∈ gw := gw_at 192 (by decide +kernel) rfl
theorem fl_X1_9 : Cond.fieldLink RX1 9 "KindJudge$Heap" "kinds" "[I" ∈ gw := gw_at 193 (by decide +kernel) rfl
theorem fl_X1_13 : Cond.fieldLink RX1 13 "KindJudge$Heap" "lengths" "[I" ∈ gw := gw_at 194 (by decide +kernel) rfl
theorem fl_X1_16 : Cond.fieldLink RX1 16 "KindJudge$Heap" "fields" "[I" ∈ gw := gw_at 195 (by decide +kernel) rfl
theorem fl_X1_19 : Cond.fieldLink RX1 19 "KindJudge$Heap" "items" "[I" ∈ gw := gw_at 196 (by decide +kernel) rfl
theorem fl_X1_22 : Cond.fieldLink RX1 22 "KindJudge$Heap" "made" "I" ∈ gw := gw_at 197 (by decide +kernel) rfl
theorem fl_X4_57 : Cond.fieldLink RX4 57 "KindJudge$Heap" "made" "I" ∈ gw := gw_at 198 (by decide +kernel) rfl
theorem fl_X9_124 : Cond.fieldLink RX9 124 "KindJudge$Heap" "made" "I" ∈ gw := gw_at 199 (by decide +kernel) rfl
theorem cl_X4_20 : Cond.classLink RX4 20 RX0 ∈ gw := gw_at 211 (by decide +kernel) rfl
theorem ki_X4_42 : Cond.constant RX4 42 (-99999999) ∈ gw := gw_at 212 (by decide +kernel) rfl
theorem fl_X4_14 : Cond.fieldLink RX4 14 "KindJudge$Machine" "heap" "LKindJudge$Heap;" ∈ gw := gw_at 213 (by decide +kernel) rfl
theorem fl_X9_120 : Cond.fieldLink RX9 120 "KindJudge$Machine" "heap" "LKindJudge$Heap;" ∈ gw := gw_at 214 (by decide +kernel) rfl
theorem fl_X4_22 : Cond.fieldLink RX4 22 "KindJudge$Machine" "codes" "[LKindJudge$Code;" ∈ gw := gw_at 215 (by decide +kernel) rfl
theorem fl_X4_26 : Cond.fieldLink RX4 26 "KindJudge$Machine" "ats" "[I" ∈ gw := gw_at 216 (by decide +kernel) rfl
theorem fl_X4_30 : Cond.fieldLink RX4 30 "KindJudge$Machine" "depths" "[I" ∈ gw := gw_at 217 (by decide +kernel) rfl
theorem fl_X4_35 : Cond.fieldLink RX4 35 "KindJudge$Machine" "locals" "[J" ∈ gw := gw_at 218 (by decide +kernel) rfl
theorem fl_X4_39 : Cond.fieldLink RX4 39 "KindJudge$Machine" "stack" "[J" ∈ gw := gw_at 219 (by decide +kernel) rfl
theorem fl_X4_50 : Cond.fieldLink RX4 50 "KindJudge$Machine" "level" "I" ∈ gw := gw_at 220 (by decide +kernel) rfl
theorem fl_X4_60 : Cond.fieldLink RX4 60 "KindJudge$Machine" "outcome" "I" ∈ gw := gw_at 221 (by decide +kernel) rfl
theorem fl_X4_97 : Cond.fieldLink RX4 97 "KindJudge$Machine" "ownFailure" "I" ∈ gw := gw_at 222 (by decide +kernel) rfl
theorem fl_X4_63 : Cond.fieldLink RX4 63 "KindJudge$Machine" "result" "I" ∈ gw := gw_at 223 (by decide +kernel) rfl
theorem fl_X9_111 : Cond.fieldLink RX9 111 "KindJudge$Machine" "result" "I" ∈ gw := gw_at 224 (by decide +kernel) rfl
theorem fl_X4_66 : Cond.fieldLink RX4 66 "KindJudge$Machine" "done" "I" ∈ gw := gw_at 225 (by decide +kernel) rfl
theorem fl_X9_114 : Cond.fieldLink RX9 114 "KindJudge$Machine" "done" "I" ∈ gw := gw_at 226 (by decide +kernel) rfl
theorem fl_X4_69 : Cond.fieldLink RX4 69 "KindJudge$Machine" "failures" "I" ∈ gw := gw_at 227 (by decide +kernel) rfl
theorem fl_X9_117 : Cond.fieldLink RX9 117 "KindJudge$Machine" "failures" "I" ∈ gw := gw_at 228 (by decide +kernel) rfl
theorem fl_X4_43 : Cond.fieldLink RX4 43 "KindJudge$Machine" "failMethod" "I" ∈ gw := gw_at 229 (by decide +kernel) rfl
theorem fl_X9_129 : Cond.fieldLink RX9 129 "KindJudge$Machine" "failMethod" "I" ∈ gw := gw_at 230 (by decide +kernel) rfl
theorem fl_X4_47 : Cond.fieldLink RX4 47 "KindJudge$Machine" "failAt" "I" ∈ gw := gw_at 231 (by decide +kernel) rfl
theorem fl_X9_132 : Cond.fieldLink RX9 132 "KindJudge$Machine" "failAt" "I" ∈ gw := gw_at 232 (by decide +kernel) rfl
theorem ac_long : Cond.arrayClass .long ∈ gw := gw_at 262 (by decide +kernel) rfl
theorem fl_X9_10 : Cond.fieldLink RX9 10 "KindJudge" "program" "LKindJudge$Program;" ∈ gw := gw_at 263 (by decide +kernel) rfl
theorem fl_X9_19 : Cond.fieldLink RX9 19 "KindJudge" "judging" "LKindJudge$Judging;" ∈ gw := gw_at 264 (by decide +kernel) rfl
theorem fl_X9_26 : Cond.fieldLink RX9 26 "KindJudge" "machine" "LKindJudge$Machine;" ∈ gw := gw_at 265 (by decide +kernel) rfl
theorem ml_L_13 : Cond.methodLink RL 13 yX9_method ∈ gw := gw_at 273 (by decide +kernel) rfl
theorem im_X9_method : Cond.instanceMethod yX9_method ∈ gw := gw_at 274 (by decide +kernel) rfl
theorem se_X9_method : Cond.selects RX9 yX9_method yX9_method ∈ gw := gw_at 275 (by decide +kernel) rfl
theorem cd_X9_method : Cond.code yX9_method cX9_method 2 (some .int) ∈ gw := gw_in (tb_1 (List.mem_of_getElem? (i := 197) rfl)) rfl
theorem ml_X9_30 : Cond.methodLink RX9 30 yX7_add ∈ gw := gw_at 277 (by decide +kernel) rfl
theorem im_X7_add : Cond.instanceMethod yX7_add ∈ gw := gw_at 278 (by decide +kernel) rfl
theorem se_X7_add : Cond.selects RX7 yX7_add yX7_add ∈ gw := gw_at 279 (by decide +kernel) rfl
theorem cd_X7_add : Cond.code yX7_add cX7_add 2 (some .int) ∈ gw := gw_in (tb_1 (List.mem_of_getElem? (i := 201) rfl)) rfl
theorem ins_X0 : Cond.instantiable RX0 12 ∈ gw := gw_at 281 (by decide +kernel) rfl
theorem ml_X7_21 : Cond.methodLink RX7 21 yX0_init ∈ gw := gw_at 282 (by decide +kernel) rfl
theorem im_X0_init : Cond.instanceMethod yX0_init ∈ gw := gw_at 283 (by decide +kernel) rfl
theorem cd_X0_init : Cond.code yX0_init cX0_init 3 none ∈ gw := gw_in (tb_1 (List.mem_of_getElem? (i := 205) rfl)) rfl
theorem ml_X0_3 : Cond.methodLink RX0 3 objectInit ∈ gw := gw_at 285 (by decide +kernel) rfl
theorem cl_X0_31 : Cond.classLink RX0 31 RX6 ∈ gw := gw_at 286 (by decide +kernel) rfl
theorem fl_X0_37 : Cond.fieldLink RX0 37 "KindJudge$Code" "number" "I" ∈ gw := gw_at 287 (by decide +kernel) rfl
theorem fl_X4_94 : Cond.fieldLink RX4 94 "KindJudge$Code" "number" "I" ∈ gw := gw_at 288 (by decide +kernel) rfl
theorem fl_X8_142 : Cond.fieldLink RX8 142 "KindJudge$Code" "number" "I" ∈ gw := gw_at 289 (by decide +kernel) rfl
theorem fl_X0_41 : Cond.fieldLink RX0 41 "KindJudge$Code" "params" "I" ∈ gw := gw_at 290 (by decide +kernel) rfl
theorem fl_X2_57 : Cond.fieldLink RX2 57 "KindJudge$Code" "params" "I" ∈ gw := gw_at 291 (by decide +kernel) rfl
theorem fl_X8_151 : Cond.fieldLink RX8 151 "KindJudge$Code" "params" "I" ∈ gw := gw_at 292 (by decide +kernel) rfl
theorem fl_X4_226 : Cond.fieldLink RX4 226 "KindJudge$Code" "params" "I" ∈ gw := gw_at 293 (by decide +kernel) rfl
theorem fl_X0_11 : Cond.fieldLink RX0 11 "KindJudge$Code" "ops" "[I" ∈ gw := gw_at 294 (by decide +kernel) rfl
theorem fl_X8_22 : Cond.fieldLink RX8 22 "KindJudge$Code" "ops" "[I" ∈ gw := gw_at 295 (by decide +kernel) rfl
theorem fl_X4_80 : Cond.fieldLink RX4 80 "KindJudge$Code" "ops" "[I" ∈ gw := gw_at 296 (by decide +kernel) rfl
theorem fl_X0_15 : Cond.fieldLink RX0 15 "KindJudge$Code" "args" "[J" ∈ gw := gw_at 297 (by decide +kernel) rfl
theorem fl_X8_26 : Cond.fieldLink RX8 26 "KindJudge$Code" "args" "[J" ∈ gw := gw_at 298 (by decide +kernel) rfl
theorem fl_X4_83 : Cond.fieldLink RX4 83 "KindJudge$Code" "args" "[J" ∈ gw := gw_at 299 (by decide +kernel) rfl
theorem fl_X0_44 : Cond.fieldLink RX0 44 "KindJudge$Code" "size" "I" ∈ gw := gw_at 300 (by decide +kernel) rfl
theorem fl_X2_44 : Cond.fieldLink RX2 44 "KindJudge$Code" "size" "I" ∈ gw := gw_at 301 (by decide +kernel) rfl
theorem fl_X9_138 : Cond.fieldLink RX9 138 "KindJudge$Code" "size" "I" ∈ gw := gw_at 302 (by decide +kernel) rfl
theorem fl_X0_19 : Cond.fieldLink RX0 19 "KindJudge$Code" "froms" "[I" ∈ gw := gw_at 303 (by decide +kernel) rfl
theorem fl_X0_22 : Cond.fieldLink RX0 22 "KindJudge$Code" "tos" "[I" ∈ gw := gw_at 304 (by decide +kernel) rfl
theorem fl_X0_25 : Cond.fieldLink RX0 25 "KindJudge$Code" "ats" "[I" ∈ gw := gw_at 305 (by decide +kernel) rfl
theorem fl_X2_105 : Cond.fieldLink RX2 105 "KindJudge$Code" "ats" "[I" ∈ gw := gw_at 306 (by decide +kernel) rfl
theorem fl_X0_28 : Cond.fieldLink RX0 28 "KindJudge$Code" "whats" "[I" ∈ gw := gw_at 307 (by decide +kernel) rfl
theorem fl_X0_51 : Cond.fieldLink RX0 51 "KindJudge$Code" "handlers" "I" ∈ gw := gw_at 308 (by decide +kernel) rfl
theorem fl_X2_98 : Cond.fieldLink RX2 98 "KindJudge$Code" "handlers" "I" ∈ gw := gw_at 309 (by decide +kernel) rfl
theorem fl_X9_139 : Cond.fieldLink RX9 139 "KindJudge$Code" "handlers" "I" ∈ gw := gw_at 310 (by decide +kernel) rfl
theorem fl_X0_33 : Cond.fieldLink RX0 33 "KindJudge$Code" "frames" "[LKindJudge$Places;" ∈ gw := gw_at 311 (by decide +kernel) rfl
theorem fl_X0_47 : Cond.fieldLink RX0 47 "KindJudge$Code" "right" "Z" ∈ gw := gw_at 312 (by decide +kernel) rfl
theorem fl_X7_24 : Cond.fieldLink RX7 24 "KindJudge$Code" "right" "Z" ∈ gw := gw_at 313 (by decide +kernel) rfl
theorem fl_X9_67 : Cond.fieldLink RX9 67 "KindJudge$Code" "right" "Z" ∈ gw := gw_at 314 (by decide +kernel) rfl
theorem ml_L_20 : Cond.methodLink RL 20 yX9_op ∈ gw := gw_at 340 (by decide +kernel) rfl
theorem im_X9_op : Cond.instanceMethod yX9_op ∈ gw := gw_at 341 (by decide +kernel) rfl
theorem se_X9_op : Cond.selects RX9 yX9_op yX9_op ∈ gw := gw_at 342 (by decide +kernel) rfl
theorem cd_X9_op : Cond.code yX9_op cX9_op 6 (some .int) ∈ gw := gw_in (tb_2 (List.mem_of_getElem? (i := 24) rfl)) rfl
theorem ml_X9_34 : Cond.methodLink RX9 34 yX7_at ∈ gw := gw_at 344 (by decide +kernel) rfl
theorem im_X7_at : Cond.instanceMethod yX7_at ∈ gw := gw_at 345 (by decide +kernel) rfl
theorem se_X7_at : Cond.selects RX7 yX7_at yX7_at ∈ gw := gw_at 346 (by decide +kernel) rfl
theorem cd_X7_at : Cond.code yX7_at cX7_at 3 (some (.object "KindJudge$Code")) ∈ gw := gw_in (tb_2 (List.mem_of_getElem? (i := 28) rfl)) rfl
theorem ml_X9_38 : Cond.methodLink RX9 38 yX0_addInstruction ∈ gw := gw_at 348 (by decide +kernel) rfl
theorem im_X0_addInstruction : Cond.instanceMethod yX0_addInstruction ∈ gw := gw_at 349 (by decide +kernel) rfl
theorem se_X0_addInstruction : Cond.selects RX0 yX0_addInstruction yX0_addInstruction ∈ gw := gw_at 350 (by decide +kernel) rfl
theorem cd_X0_addInstruction : Cond.code yX0_addInstruction cX0_addInstruction 4 (some .int) ∈ gw := gw_in (tb_2 (List.mem_of_getElem? (i := 32) rfl)) rfl
theorem ml_L_25 : Cond.methodLink RL 25 yX9_handler ∈ gw := gw_at 352 (by decide +kernel) rfl
theorem im_X9_handler : Cond.instanceMethod yX9_handler ∈ gw := gw_at 353 (by decide +kernel) rfl
theorem se_X9_handler : Cond.selects RX9 yX9_handler yX9_handler ∈ gw := gw_at 354 (by decide +kernel) rfl
theorem cd_X9_handler : Cond.code yX9_handler cX9_handler 7 (some .int) ∈ gw := gw_in (tb_2 (List.mem_of_getElem? (i := 36) rfl)) rfl
theorem ml_X9_44 : Cond.methodLink RX9 44 yX0_addHandler ∈ gw := gw_at 356 (by decide +kernel) rfl
theorem im_X0_addHandler : Cond.instanceMethod yX0_addHandler ∈ gw := gw_at 357 (by decide +kernel) rfl
theorem se_X0_addHandler : Cond.selects RX0 yX0_addHandler yX0_addHandler ∈ gw := gw_at 358 (by decide +kernel) rfl
theorem cd_X0_addHandler : Cond.code yX0_addHandler cX0_addHandler 5 (some .int) ∈ gw := gw_in (tb_2 (List.mem_of_getElem? (i := 40) rfl)) rfl
theorem ml_L_30 : Cond.methodLink RL 30 yX9_frame ∈ gw := gw_at 360 (by decide +kernel) rfl
theorem im_X9_frame : Cond.instanceMethod yX9_frame ∈ gw := gw_at 361 (by decide +kernel) rfl
theorem se_X9_frame : Cond.selects RX9 yX9_frame yX9_frame ∈ gw := gw_at 362 (by decide +kernel) rfl
theorem cd_X9_frame : Cond.code yX9_frame cX9_frame 5 (some .int) ∈ gw := gw_in (tb_2 (List.mem_of_getElem? (i := 44) rfl)) rfl
theorem ml_X9_50 : Cond.methodLink RX9 50 yX0_putFrame ∈ gw := gw_at 364 (by decide +kernel) rfl
theorem im_X0_putFrame : Cond.instanceMethod yX0_putFrame ∈ gw := gw_at 365 (by decide +kernel) rfl
theorem se_X0_putFrame : Cond.selects RX0 yX0_putFrame yX0_putFrame ∈ gw := gw_at 366 (by decide +kernel) rfl
theorem cd_X0_putFrame : Cond.code yX0_putFrame cX0_putFrame 3 none ∈ gw := gw_in (tb_2 (List.mem_of_getElem? (i := 48) rfl)) rfl
theorem ml_X0_55 : Cond.methodLink RX0 55 yX6_clear ∈ gw := gw_at 369 (by decide +kernel) rfl
theorem im_X6_clear : Cond.instanceMethod yX6_clear ∈ gw := gw_at 370 (by decide +kernel) rfl
theorem se_X6_clear : Cond.selects RX6 yX6_clear yX6_clear ∈ gw := gw_at 371 (by decide +kernel) rfl
theorem cd_X6_clear : Cond.code yX6_clear cX6_clear 3 none ∈ gw := gw_in (tb_2 (List.mem_of_getElem? (i := 53) rfl)) rfl
theorem ml_L_35 : Cond.methodLink RL 35 yX9_set ∈ gw := gw_at 373 (by decide +kernel) rfl
theorem im_X9_set : Cond.instanceMethod yX9_set ∈ gw := gw_at 374 (by decide +kernel) rfl
theorem se_X9_set : Cond.selects RX9 yX9_set yX9_set ∈ gw := gw_at 375 (by decide +kernel) rfl
theorem cd_X9_set : Cond.code yX9_set cX9_set 7 (some .int) ∈ gw := gw_in (tb_2 (List.mem_of_getElem? (i := 57) rfl)) rfl
theorem ml_X9_54 : Cond.methodLink RX9 54 yX0_frameOf ∈ gw := gw_at 377 (by decide +kernel) rfl
theorem im_X0_frameOf : Cond.instanceMethod yX0_frameOf ∈ gw := gw_at 378 (by decide +kernel) rfl
theorem se_X0_frameOf : Cond.selects RX0 yX0_frameOf yX0_frameOf ∈ gw := gw_at 379 (by decide +kernel) rfl
theorem cd_X0_frameOf : Cond.code yX0_frameOf cX0_frameOf 3 (some (.object "KindJudge$Places")) ∈ gw := gw_in (tb_2 (List.mem_of_getElem? (i := 61) rfl)) rfl
theorem ml_X9_58 : Cond.methodLink RX9 58 yX6_has ∈ gw := gw_at 381 (by decide +kernel) rfl
theorem im_X6_has : Cond.instanceMethod yX6_has ∈ gw := gw_at 382 (by decide +kernel) rfl
theorem se_X6_has : Cond.selects RX6 yX6_has yX6_has ∈ gw := gw_at 383 (by decide +kernel) rfl
theorem cd_X6_has : Cond.code yX6_has cX6_has 2 (some .boolean) ∈ gw := gw_in (tb_2 (List.mem_of_getElem? (i := 65) rfl)) rfl
theorem ml_X9_62 : Cond.methodLink RX9 62 yX3_isKind ∈ gw := gw_at 385 (by decide +kernel) rfl
theorem st_X3_isKind : Cond.static yX3_isKind ∈ gw := gw_at 386 (by decide +kernel) rfl
theorem cd_X3_isKind : Cond.code yX3_isKind cX3_isKind 1 (some .boolean) ∈ gw := gw_in (tb_2 (List.mem_of_getElem? (i := 68) rfl)) rfl
theorem ml_X3_15 : Cond.methodLink RX3 15 yX3_isObject ∈ gw := gw_at 388 (by decide +kernel) rfl
theorem st_X3_isObject : Cond.static yX3_isObject ∈ gw := gw_at 389 (by decide +kernel) rfl
theorem cd_X3_isObject : Cond.code yX3_isObject cX3_isObject 1 (some .boolean) ∈ gw := gw_in (tb_2 (List.mem_of_getElem? (i := 71) rfl)) rfl
theorem ml_X3_19 : Cond.methodLink RX3 19 yX3_isRow ∈ gw := gw_at 391 (by decide +kernel) rfl
theorem st_X3_isRow : Cond.static yX3_isRow ∈ gw := gw_at 392 (by decide +kernel) rfl
theorem cd_X3_isRow : Cond.code yX3_isRow cX3_isRow 1 (some .boolean) ∈ gw := gw_in (tb_2 (List.mem_of_getElem? (i := 74) rfl)) rfl
theorem ml_X3_22 : Cond.methodLink RX3 22 yX3_isUnmade ∈ gw := gw_at 394 (by decide +kernel) rfl
theorem st_X3_isUnmade : Cond.static yX3_isUnmade ∈ gw := gw_at 395 (by decide +kernel) rfl
theorem cd_X3_isUnmade : Cond.code yX3_isUnmade cX3_isUnmade 1 (some .boolean) ∈ gw := gw_in (tb_2 (List.mem_of_getElem? (i := 77) rfl)) rfl
theorem ml_X9_71 : Cond.methodLink RX9 71 yX6_exchange ∈ gw := gw_at 397 (by decide +kernel) rfl
theorem im_X6_exchange : Cond.instanceMethod yX6_exchange ∈ gw := gw_at 398 (by decide +kernel) rfl
theorem se_X6_exchange : Cond.selects RX6 yX6_exchange yX6_exchange ∈ gw := gw_at 399 (by decide +kernel) rfl
theorem cd_X6_exchange : Cond.code yX6_exchange cX6_exchange 4 (some .int) ∈ gw := gw_in (tb_2 (List.mem_of_getElem? (i := 81) rfl)) rfl
theorem ml_X6_29 : Cond.methodLink RX6 29 yX6_has ∈ gw := gw_at 401 (by decide +kernel) rfl
theorem ml_L_40 : Cond.methodLink RL 40 yX9_judge ∈ gw := gw_at 402 (by decide +kernel) rfl
theorem im_X9_judge : Cond.instanceMethod yX9_judge ∈ gw := gw_at 403 (by decide +kernel) rfl
theorem se_X9_judge : Cond.selects RX9 yX9_judge yX9_judge ∈ gw := gw_at 404 (by decide +kernel) rfl
theorem cd_X9_judge : Cond.code yX9_judge cX9_judge 4 (some .int) ∈ gw := gw_in (tb_2 (List.mem_of_getElem? (i := 86) rfl)) rfl
theorem ml_X9_75 : Cond.methodLink RX9 75 yX2_byFrames ∈ gw := gw_at 406 (by decide +kernel) rfl
theorem im_X2_byFrames : Cond.instanceMethod yX2_byFrames ∈ gw := gw_at 407 (by decide +kernel) rfl
theorem se_X2_byFrames : Cond.selects RX2 yX2_byFrames yX2_byFrames ∈ gw := gw_at 408 (by decide +kernel) rfl
theorem cd_X2_byFrames : Cond.code yX2_byFrames cX2_byFrames 7 (some .int) ∈ gw := gw_in (tb_2 (List.mem_of_getElem? (i := 90) rfl)) rfl
theorem ml_X2_50 : Cond.methodLink RX2 50 yX2_forget ∈ gw := gw_at 410 (by decide +kernel) rfl
theorem im_X2_forget : Cond.instanceMethod yX2_forget ∈ gw := gw_at 412 (by decide +kernel) rfl
theorem cd_X2_forget : Cond.code yX2_forget cX2_forget 3 none ∈ gw := gw_in (tb_2 (List.mem_of_getElem? (i := 94) rfl)) rfl
theorem ml_X2_60 : Cond.methodLink RX2 60 yX6_begin ∈ gw := gw_at 414 (by decide +kernel) rfl
theorem im_X6_begin : Cond.instanceMethod yX6_begin ∈ gw := gw_at 415 (by decide +kernel) rfl
theorem se_X6_begin : Cond.selects RX6 yX6_begin yX6_begin ∈ gw := gw_at 416 (by decide +kernel) rfl
theorem cd_X6_begin : Cond.code yX6_begin cX6_begin 3 none ∈ gw := gw_in (tb_2 (List.mem_of_getElem? (i := 98) rfl)) rfl
theorem ml_X6_19 : Cond.methodLink RX6 19 yX6_clear ∈ gw := gw_at 418 (by decide +kernel) rfl
theorem ml_X2_64 : Cond.methodLink RX2 64 yX0_frameOf ∈ gw := gw_at 419 (by decide +kernel) rfl
theorem ml_X2_68 : Cond.methodLink RX2 68 yX6_goesTo ∈ gw := gw_at 420 (by decide +kernel) rfl
theorem im_X6_goesTo : Cond.instanceMethod yX6_goesTo ∈ gw := gw_at 421 (by decide +kernel) rfl
theorem se_X6_goesTo : Cond.selects RX6 yX6_goesTo yX6_goesTo ∈ gw := gw_at 422 (by decide +kernel) rfl
theorem cd_X6_goesTo : Cond.code yX6_goesTo cX6_goesTo 3 (some .boolean) ∈ gw := gw_in (tb_2 (List.mem_of_getElem? (i := 104) rfl)) rfl
theorem ml_X6_40 : Cond.methodLink RX6 40 yX3_goesTo ∈ gw := gw_at 424 (by decide +kernel) rfl
theorem st_X3_goesTo : Cond.static yX3_goesTo ∈ gw := gw_at 425 (by decide +kernel) rfl
theorem cd_X3_goesTo : Cond.code yX3_goesTo cX3_goesTo 2 (some .boolean) ∈ gw := gw_in (tb_2 (List.mem_of_getElem? (i := 107) rfl)) rfl
theorem ml_X3_29 : Cond.methodLink RX3 29 yX3_isReference ∈ gw := gw_at 427 (by decide +kernel) rfl
theorem st_X3_isReference : Cond.static yX3_isReference ∈ gw := gw_at 428 (by decide +kernel) rfl
theorem cd_X3_isReference : Cond.code yX3_isReference cX3_isReference 1 (some .boolean) ∈ gw := gw_in (tb_2 (List.mem_of_getElem? (i := 110) rfl)) rfl
theorem ml_X3_32 : Cond.methodLink RX3 32 yX3_isUnder ∈ gw := gw_at 430 (by decide +kernel) rfl
theorem st_X3_isUnder : Cond.static yX3_isUnder ∈ gw := gw_at 431 (by decide +kernel) rfl
theorem cd_X3_isUnder : Cond.code yX3_isUnder cX3_isUnder 2 (some .boolean) ∈ gw := gw_in (tb_2 (List.mem_of_getElem? (i := 113) rfl)) rfl
theorem fl_X3_25 : Cond.fieldLink RX3 25 "KindJudge$Kinds" "UNDER" "[I" ∈ gw := gw_at 433 (by decide +kernel) rfl
theorem ml_X2_72 : Cond.methodLink RX2 72 yX6_copyFrom ∈ gw := gw_at 435 (by decide +kernel) rfl
theorem im_X6_copyFrom : Cond.instanceMethod yX6_copyFrom ∈ gw := gw_at 436 (by decide +kernel) rfl
theorem se_X6_copyFrom : Cond.selects RX6 yX6_copyFrom yX6_copyFrom ∈ gw := gw_at 437 (by decide +kernel) rfl
theorem cd_X6_copyFrom : Cond.code yX6_copyFrom cX6_copyFrom 2 none ∈ gw := gw_in (tb_2 (List.mem_of_getElem? (i := 119) rfl)) rfl
theorem ml_X6_23 : Cond.methodLink RX6 23 arraycopyName ∈ gw := gw_at 439 (by decide +kernel) rfl
theorem st_arraycopyName : Cond.static arraycopyName ∈ gw := gw_at 440 (by decide +kernel) rfl
theorem nat_copy : Cond.native arraycopyName ∈ gw := gw_at 441 (by decide +kernel) rfl
