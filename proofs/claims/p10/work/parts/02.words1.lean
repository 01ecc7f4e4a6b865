theorem ml_X2_76 : Cond.methodLink RX2 76 yX8_does ∈ gw := gw_at 442 (by decide +kernel) rfl
theorem im_X8_does : Cond.instanceMethod yX8_does ∈ gw := gw_at 443 (by decide +kernel) rfl
theorem se_X8_does : Cond.selects RX8 yX8_does yX8_does ∈ gw := gw_at 444 (by decide +kernel) rfl
theorem cd_X8_does : Cond.code yX8_does cX8_does 7 (some .boolean) ∈ gw := gw_in (tb_2 (List.mem_of_getElem? (i := 126) rfl)) rfl
theorem ml_X8_16 : Cond.methodLink RX8 16 yX0_hasInstruction ∈ gw := gw_at 446 (by decide +kernel) rfl
theorem im_X0_hasInstruction : Cond.instanceMethod yX0_hasInstruction ∈ gw := gw_at 447 (by decide +kernel) rfl
theorem se_X0_hasInstruction : Cond.selects RX0 yX0_hasInstruction yX0_hasInstruction ∈ gw := gw_at 448 (by decide +kernel) rfl
theorem cd_X0_hasInstruction : Cond.code yX0_hasInstruction cX0_hasInstruction 3 (some .boolean) ∈ gw := gw_in (tb_2 (List.mem_of_getElem? (i := 130) rfl)) rfl
theorem ml_X8_40 : Cond.methodLink RX8 40 yX8_moves ∈ gw := gw_at 450 (by decide +kernel) rfl
theorem im_X8_moves : Cond.instanceMethod yX8_moves ∈ gw := gw_at 452 (by decide +kernel) rfl
theorem cd_X8_moves : Cond.code yX8_moves cX8_moves 5 (some .boolean) ∈ gw := gw_in (tb_2 (List.mem_of_getElem? (i := 134) rfl)) rfl
theorem ml_X8_74 : Cond.methodLink RX8 74 yX6_push ∈ gw := gw_at 454 (by decide +kernel) rfl
theorem im_X6_push : Cond.instanceMethod yX6_push ∈ gw := gw_at 455 (by decide +kernel) rfl
theorem se_X6_push : Cond.selects RX6 yX6_push yX6_push ∈ gw := gw_at 456 (by decide +kernel) rfl
theorem cd_X6_push : Cond.code yX6_push cX6_push 2 (some .boolean) ∈ gw := gw_in (tb_2 (List.mem_of_getElem? (i := 138) rfl)) rfl
theorem ml_X8_77 : Cond.methodLink RX8 77 yX6_pushLong ∈ gw := gw_at 458 (by decide +kernel) rfl
theorem im_X6_pushLong : Cond.instanceMethod yX6_pushLong ∈ gw := gw_at 459 (by decide +kernel) rfl
theorem se_X6_pushLong : Cond.selects RX6 yX6_pushLong yX6_pushLong ∈ gw := gw_at 460 (by decide +kernel) rfl
theorem cd_X6_pushLong : Cond.code yX6_pushLong cX6_pushLong 1 (some .boolean) ∈ gw := gw_in (tb_2 (List.mem_of_getElem? (i := 142) rfl)) rfl
theorem ml_X6_37 : Cond.methodLink RX6 37 yX6_push ∈ gw := gw_at 462 (by decide +kernel) rfl
theorem kl_X8_81 : Cond.constantLong RX8 81 (8) ∈ gw := gw_at 463 (by decide +kernel) rfl
theorem ml_X8_86 : Cond.methodLink RX8 86 yX3_isOnePlace ∈ gw := gw_at 464 (by decide +kernel) rfl
theorem st_X3_isOnePlace : Cond.static yX3_isOnePlace ∈ gw := gw_at 465 (by decide +kernel) rfl
theorem cd_X3_isOnePlace : Cond.code yX3_isOnePlace cX3_isOnePlace 1 (some .boolean) ∈ gw := gw_in (tb_2 (List.mem_of_getElem? (i := 147) rfl)) rfl
theorem ml_X8_89 : Cond.methodLink RX8 89 yX8_stores ∈ gw := gw_at 467 (by decide +kernel) rfl
theorem im_X8_stores : Cond.instanceMethod yX8_stores ∈ gw := gw_at 469 (by decide +kernel) rfl
theorem cd_X8_stores : Cond.code yX8_stores cX8_stores 3 (some .boolean) ∈ gw := gw_in (tb_2 (List.mem_of_getElem? (i := 151) rfl)) rfl
theorem ml_X8_98 : Cond.methodLink RX8 98 yX6_popOne ∈ gw := gw_at 471 (by decide +kernel) rfl
theorem im_X6_popOne : Cond.instanceMethod yX6_popOne ∈ gw := gw_at 472 (by decide +kernel) rfl
theorem se_X6_popOne : Cond.selects RX6 yX6_popOne yX6_popOne ∈ gw := gw_at 473 (by decide +kernel) rfl
theorem cd_X6_popOne : Cond.code yX6_popOne cX6_popOne 2 (some .int) ∈ gw := gw_in (tb_2 (List.mem_of_getElem? (i := 155) rfl)) rfl
theorem ml_X6_48 : Cond.methodLink RX6 48 yX6_top ∈ gw := gw_at 475 (by decide +kernel) rfl
theorem im_X6_top : Cond.instanceMethod yX6_top ∈ gw := gw_at 476 (by decide +kernel) rfl
theorem se_X6_top : Cond.selects RX6 yX6_top yX6_top ∈ gw := gw_at 477 (by decide +kernel) rfl
theorem cd_X6_top : Cond.code yX6_top cX6_top 1 (some .int) ∈ gw := gw_in (tb_2 (List.mem_of_getElem? (i := 159) rfl)) rfl
theorem ml_X6_52 : Cond.methodLink RX6 52 yX3_isOnePlace ∈ gw := gw_at 479 (by decide +kernel) rfl
theorem ml_X8_102 : Cond.methodLink RX8 102 yX6_write ∈ gw := gw_at 480 (by decide +kernel) rfl
theorem im_X6_write : Cond.instanceMethod yX6_write ∈ gw := gw_at 481 (by decide +kernel) rfl
theorem se_X6_write : Cond.selects RX6 yX6_write yX6_write ∈ gw := gw_at 482 (by decide +kernel) rfl
theorem cd_X6_write : Cond.code yX6_write cX6_write 5 none ∈ gw := gw_in (tb_2 (List.mem_of_getElem? (i := 164) rfl)) rfl
theorem ml_X8_92 : Cond.methodLink RX8 92 yX8_holdsLong ∈ gw := gw_at 484 (by decide +kernel) rfl
theorem im_X8_holdsLong : Cond.instanceMethod yX8_holdsLong ∈ gw := gw_at 486 (by decide +kernel) rfl
theorem cd_X8_holdsLong : Cond.code yX8_holdsLong cX8_holdsLong 2 (some .boolean) ∈ gw := gw_in (tb_2 (List.mem_of_getElem? (i := 168) rfl)) rfl
theorem ml_X8_95 : Cond.methodLink RX8 95 yX8_storesLong ∈ gw := gw_at 488 (by decide +kernel) rfl
theorem im_X8_storesLong : Cond.instanceMethod yX8_storesLong ∈ gw := gw_at 490 (by decide +kernel) rfl
theorem cd_X8_storesLong : Cond.code yX8_storesLong cX8_storesLong 2 (some .boolean) ∈ gw := gw_in (tb_2 (List.mem_of_getElem? (i := 172) rfl)) rfl
theorem ml_X8_106 : Cond.methodLink RX8 106 yX6_popLong ∈ gw := gw_at 492 (by decide +kernel) rfl
theorem im_X6_popLong : Cond.instanceMethod yX6_popLong ∈ gw := gw_at 493 (by decide +kernel) rfl
theorem se_X6_popLong : Cond.selects RX6 yX6_popLong yX6_popLong ∈ gw := gw_at 494 (by decide +kernel) rfl
theorem cd_X6_popLong : Cond.code yX6_popLong cX6_popLong 2 (some .boolean) ∈ gw := gw_in (tb_2 (List.mem_of_getElem? (i := 176) rfl)) rfl
theorem ml_X8_109 : Cond.methodLink RX8 109 yX6_writeLong ∈ gw := gw_at 496 (by decide +kernel) rfl
theorem im_X6_writeLong : Cond.instanceMethod yX6_writeLong ∈ gw := gw_at 497 (by decide +kernel) rfl
theorem se_X6_writeLong : Cond.selects RX6 yX6_writeLong yX6_writeLong ∈ gw := gw_at 498 (by decide +kernel) rfl
theorem cd_X6_writeLong : Cond.code yX6_writeLong cX6_writeLong 2 none ∈ gw := gw_in (tb_2 (List.mem_of_getElem? (i := 180) rfl)) rfl
theorem ml_X6_61 : Cond.methodLink RX6 61 yX6_write ∈ gw := gw_at 500 (by decide +kernel) rfl
theorem ml_X8_44 : Cond.methodLink RX8 44 yX8_reckons ∈ gw := gw_at 501 (by decide +kernel) rfl
theorem im_X8_reckons : Cond.instanceMethod yX8_reckons ∈ gw := gw_at 503 (by decide +kernel) rfl
theorem cd_X8_reckons : Cond.code yX8_reckons cX8_reckons 5 (some .boolean) ∈ gw := gw_in (tb_2 (List.mem_of_getElem? (i := 185) rfl)) rfl
theorem kl_X8_113 : Cond.constantLong RX8 113 (4) ∈ gw := gw_at 505 (by decide +kernel) rfl
theorem ml_X8_115 : Cond.methodLink RX8 115 yX6_pop ∈ gw := gw_at 506 (by decide +kernel) rfl
theorem im_X6_pop : Cond.instanceMethod yX6_pop ∈ gw := gw_at 507 (by decide +kernel) rfl
theorem se_X6_pop : Cond.selects RX6 yX6_pop yX6_pop ∈ gw := gw_at 508 (by decide +kernel) rfl
theorem cd_X6_pop : Cond.code yX6_pop cX6_pop 2 (some .boolean) ∈ gw := gw_in (tb_2 (List.mem_of_getElem? (i := 190) rfl)) rfl
theorem ml_X8_47 : Cond.methodLink RX8 47 yX8_begins ∈ gw := gw_at 510 (by decide +kernel) rfl
theorem im_X8_begins : Cond.instanceMethod yX8_begins ∈ gw := gw_at 512 (by decide +kernel) rfl
theorem cd_X8_begins : Cond.code yX8_begins cX8_begins 5 (some .boolean) ∈ gw := gw_in (tb_2 (List.mem_of_getElem? (i := 194) rfl)) rfl
theorem ml_X8_118 : Cond.methodLink RX8 118 yX3_isClass ∈ gw := gw_at 514 (by decide +kernel) rfl
theorem st_X3_isClass : Cond.static yX3_isClass ∈ gw := gw_at 515 (by decide +kernel) rfl
theorem cd_X3_isClass : Cond.code yX3_isClass cX3_isClass 2 (some .boolean) ∈ gw := gw_in (tb_2 (List.mem_of_getElem? (i := 197) rfl)) rfl
theorem kl_X3_9 : Cond.constantLong RX3 9 (5) ∈ gw := gw_at 517 (by decide +kernel) rfl
theorem ml_X8_121 : Cond.methodLink RX8 121 yX6_stackHolds ∈ gw := gw_at 518 (by decide +kernel) rfl
theorem im_X6_stackHolds : Cond.instanceMethod yX6_stackHolds ∈ gw := gw_at 519 (by decide +kernel) rfl
theorem se_X6_stackHolds : Cond.selects RX6 yX6_stackHolds yX6_stackHolds ∈ gw := gw_at 520 (by decide +kernel) rfl
theorem cd_X6_stackHolds : Cond.code yX6_stackHolds cX6_stackHolds 3 (some .boolean) ∈ gw := gw_in (tb_2 (List.mem_of_getElem? (i := 202) rfl)) rfl
theorem ml_X8_124 : Cond.methodLink RX8 124 yX6_replace ∈ gw := gw_at 522 (by decide +kernel) rfl
theorem im_X6_replace : Cond.instanceMethod yX6_replace ∈ gw := gw_at 523 (by decide +kernel) rfl
theorem se_X6_replace : Cond.selects RX6 yX6_replace yX6_replace ∈ gw := gw_at 524 (by decide +kernel) rfl
theorem cd_X6_replace : Cond.code yX6_replace cX6_replace 4 none ∈ gw := gw_in (tb_2 (List.mem_of_getElem? (i := 206) rfl)) rfl
theorem ml_X8_50 : Cond.methodLink RX8 50 yX8_finishes ∈ gw := gw_at 526 (by decide +kernel) rfl
theorem im_X8_finishes : Cond.instanceMethod yX8_finishes ∈ gw := gw_at 528 (by decide +kernel) rfl
theorem cd_X8_finishes : Cond.code yX8_finishes cX8_finishes 6 (some .boolean) ∈ gw := gw_in (tb_2 (List.mem_of_getElem? (i := 210) rfl)) rfl
theorem ml_X8_127 : Cond.methodLink RX8 127 yX3_isUnmade ∈ gw := gw_at 530 (by decide +kernel) rfl
theorem ml_X8_54 : Cond.methodLink RX8 54 yX8_usesArray ∈ gw := gw_at 531 (by decide +kernel) rfl
theorem im_X8_usesArray : Cond.instanceMethod yX8_usesArray ∈ gw := gw_at 533 (by decide +kernel) rfl
theorem cd_X8_usesArray : Cond.code yX8_usesArray cX8_usesArray 4 (some .boolean) ∈ gw := gw_in (tb_2 (List.mem_of_getElem? (i := 215) rfl)) rfl
theorem ml_X8_130 : Cond.methodLink RX8 130 yX6_popRow ∈ gw := gw_at 535 (by decide +kernel) rfl
theorem im_X6_popRow : Cond.instanceMethod yX6_popRow ∈ gw := gw_at 536 (by decide +kernel) rfl
theorem se_X6_popRow : Cond.selects RX6 yX6_popRow yX6_popRow ∈ gw := gw_at 537 (by decide +kernel) rfl
theorem cd_X6_popRow : Cond.code yX6_popRow cX6_popRow 2 (some .int) ∈ gw := gw_in (tb_2 (List.mem_of_getElem? (i := 219) rfl)) rfl
theorem ml_X6_55 : Cond.methodLink RX6 55 yX3_isRow ∈ gw := gw_at 539 (by decide +kernel) rfl
theorem ml_X6_58 : Cond.methodLink RX6 58 yX6_popOne ∈ gw := gw_at 540 (by decide +kernel) rfl
theorem ml_X8_133 : Cond.methodLink RX8 133 yX8_takes ∈ gw := gw_at 541 (by decide +kernel) rfl
theorem im_X8_takes : Cond.instanceMethod yX8_takes ∈ gw := gw_at 543 (by decide +kernel) rfl
theorem cd_X8_takes : Cond.code yX8_takes cX8_takes 2 (some .boolean) ∈ gw := gw_in (tb_2 (List.mem_of_getElem? (i := 225) rfl)) rfl
theorem ml_X8_136 : Cond.methodLink RX8 136 yX3_isRow ∈ gw := gw_at 545 (by decide +kernel) rfl
theorem ml_X8_57 : Cond.methodLink RX8 57 yX8_usesObject ∈ gw := gw_at 546 (by decide +kernel) rfl
theorem im_X8_usesObject : Cond.instanceMethod yX8_usesObject ∈ gw := gw_at 548 (by decide +kernel) rfl
theorem cd_X8_usesObject : Cond.code yX8_usesObject cX8_usesObject 4 (some .boolean) ∈ gw := gw_in (tb_2 (List.mem_of_getElem? (i := 230) rfl)) rfl
theorem ml_X8_139 : Cond.methodLink RX8 139 yX3_isClassOrFace ∈ gw := gw_at 550 (by decide +kernel) rfl
theorem st_X3_isClassOrFace : Cond.static yX3_isClassOrFace ∈ gw := gw_at 551 (by decide +kernel) rfl
theorem cd_X3_isClassOrFace : Cond.code yX3_isClassOrFace cX3_isClassOrFace 2 (some .boolean) ∈ gw := gw_in (tb_2 (List.mem_of_getElem? (i := 233) rfl)) rfl
theorem kl_X3_11 : Cond.constantLong RX3 11 (7) ∈ gw := gw_at 553 (by decide +kernel) rfl
theorem ml_X8_60 : Cond.methodLink RX8 60 yX8_turns ∈ gw := gw_at 554 (by decide +kernel) rfl
theorem im_X8_turns : Cond.instanceMethod yX8_turns ∈ gw := gw_at 556 (by decide +kernel) rfl
theorem cd_X8_turns : Cond.code yX8_turns cX8_turns 4 (some .boolean) ∈ gw := gw_in (tb_2 (List.mem_of_getElem? (i := 238) rfl)) rfl
theorem ml_X8_64 : Cond.methodLink RX8 64 yX8_calls ∈ gw := gw_at 558 (by decide +kernel) rfl
theorem im_X8_calls : Cond.instanceMethod yX8_calls ∈ gw := gw_at 560 (by decide +kernel) rfl
theorem cd_X8_calls : Cond.code yX8_calls cX8_calls 7 (some .boolean) ∈ gw := gw_in (tb_3 (List.mem_of_getElem? (i := 2) rfl)) rfl
theorem ml_X8_145 : Cond.methodLink RX8 145 yX7_at ∈ gw := gw_at 562 (by decide +kernel) rfl
theorem ml_X8_68 : Cond.methodLink RX8 68 yX8_goesElsewhere ∈ gw := gw_at 563 (by decide +kernel) rfl
theorem im_X8_goesElsewhere : Cond.instanceMethod yX8_goesElsewhere ∈ gw := gw_at 565 (by decide +kernel) rfl
theorem cd_X8_goesElsewhere : Cond.code yX8_goesElsewhere cX8_goesElsewhere 5 (some .boolean) ∈ gw := gw_in (tb_3 (List.mem_of_getElem? (i := 7) rfl)) rfl
theorem ml_X2_80 : Cond.methodLink RX2 80 yX2_leadsToFrame ∈ gw := gw_at 567 (by decide +kernel) rfl
theorem im_X2_leadsToFrame : Cond.instanceMethod yX2_leadsToFrame ∈ gw := gw_at 569 (by decide +kernel) rfl
theorem cd_X2_leadsToFrame : Cond.code yX2_leadsToFrame cX2_leadsToFrame 3 (some .boolean) ∈ gw := gw_in (tb_3 (List.mem_of_getElem? (i := 11) rfl)) rfl
theorem ml_X2_84 : Cond.methodLink RX2 84 yX2_handlersFit ∈ gw := gw_at 571 (by decide +kernel) rfl
theorem im_X2_handlersFit : Cond.instanceMethod yX2_handlersFit ∈ gw := gw_at 573 (by decide +kernel) rfl
theorem cd_X2_handlersFit : Cond.code yX2_handlersFit cX2_handlersFit 5 (some .boolean) ∈ gw := gw_in (tb_3 (List.mem_of_getElem? (i := 15) rfl)) rfl
theorem ml_X2_95 : Cond.methodLink RX2 95 yX6_becomeCaught ∈ gw := gw_at 575 (by decide +kernel) rfl
theorem im_X6_becomeCaught : Cond.instanceMethod yX6_becomeCaught ∈ gw := gw_at 576 (by decide +kernel) rfl
theorem se_X6_becomeCaught : Cond.selects RX6 yX6_becomeCaught yX6_becomeCaught ∈ gw := gw_at 577 (by decide +kernel) rfl
theorem cd_X6_becomeCaught : Cond.code yX6_becomeCaught cX6_becomeCaught 2 none ∈ gw := gw_in (tb_3 (List.mem_of_getElem? (i := 19) rfl)) rfl
theorem ml_X6_33 : Cond.methodLink RX6 33 yX6_copyFrom ∈ gw := gw_at 579 (by decide +kernel) rfl
theorem ml_X2_101 : Cond.methodLink RX2 101 yX0_covers ∈ gw := gw_at 580 (by decide +kernel) rfl
theorem im_X0_covers : Cond.instanceMethod yX0_covers ∈ gw := gw_at 581 (by decide +kernel) rfl
theorem se_X0_covers : Cond.selects RX0 yX0_covers yX0_covers ∈ gw := gw_at 582 (by decide +kernel) rfl
theorem cd_X0_covers : Cond.code yX0_covers cX0_covers 3 (some .boolean) ∈ gw := gw_in (tb_3 (List.mem_of_getElem? (i := 24) rfl)) rfl
theorem ml_X2_108 : Cond.methodLink RX2 108 yX0_hasInstruction ∈ gw := gw_at 584 (by decide +kernel) rfl
theorem ml_L_44 : Cond.methodLink RL 44 yX9_join ∈ gw := gw_at 585 (by decide +kernel) rfl
theorem im_X9_join : Cond.instanceMethod yX9_join ∈ gw := gw_at 586 (by decide +kernel) rfl
theorem se_X9_join : Cond.selects RX9 yX9_join yX9_join ∈ gw := gw_at 587 (by decide +kernel) rfl
theorem cd_X9_join : Cond.code yX9_join cX9_join 4 (some .int) ∈ gw := gw_in (tb_3 (List.mem_of_getElem? (i := 29) rfl)) rfl
theorem ml_X9_79 : Cond.methodLink RX9 79 yX2_byJoining ∈ gw := gw_at 589 (by decide +kernel) rfl
theorem im_X2_byJoining : Cond.instanceMethod yX2_byJoining ∈ gw := gw_at 590 (by decide +kernel) rfl
theorem se_X2_byJoining : Cond.selects RX2 yX2_byJoining yX2_byJoining ∈ gw := gw_at 591 (by decide +kernel) rfl
theorem cd_X2_byJoining : Cond.code yX2_byJoining cX2_byJoining 4 (some .int) ∈ gw := gw_in (tb_3 (List.mem_of_getElem? (i := 33) rfl)) rfl
theorem ml_X2_115 : Cond.methodLink RX2 115 yX2_arrives ∈ gw := gw_at 593 (by decide +kernel) rfl
theorem im_X2_arrives : Cond.instanceMethod yX2_arrives ∈ gw := gw_at 595 (by decide +kernel) rfl
theorem cd_X2_arrives : Cond.code yX2_arrives cX2_arrives 5 (some .boolean) ∈ gw := gw_in (tb_3 (List.mem_of_getElem? (i := 37) rfl)) rfl
theorem ml_X2_126 : Cond.methodLink RX2 126 yX6_takeIn ∈ gw := gw_at 597 (by decide +kernel) rfl
theorem im_X6_takeIn : Cond.instanceMethod yX6_takeIn ∈ gw := gw_at 598 (by decide +kernel) rfl
theorem se_X6_takeIn : Cond.selects RX6 yX6_takeIn yX6_takeIn ∈ gw := gw_at 599 (by decide +kernel) rfl
theorem cd_X6_takeIn : Cond.code yX6_takeIn cX6_takeIn 5 (some .boolean) ∈ gw := gw_in (tb_3 (List.mem_of_getElem? (i := 41) rfl)) rfl
theorem ml_X6_44 : Cond.methodLink RX6 44 yX3_joinOf ∈ gw := gw_at 601 (by decide +kernel) rfl
theorem st_X3_joinOf : Cond.static yX3_joinOf ∈ gw := gw_at 602 (by decide +kernel) rfl
theorem cd_X3_joinOf : Cond.code yX3_joinOf cX3_joinOf 2 (some .int) ∈ gw := gw_in (tb_3 (List.mem_of_getElem? (i := 44) rfl)) rfl
theorem ml_X3_36 : Cond.methodLink RX3 36 yX3_sharedClass ∈ gw := gw_at 604 (by decide +kernel) rfl
theorem st_X3_sharedClass : Cond.static yX3_sharedClass ∈ gw := gw_at 605 (by decide +kernel) rfl
theorem cd_X3_sharedClass : Cond.code yX3_sharedClass cX3_sharedClass 4 (some .int) ∈ gw := gw_in (tb_3 (List.mem_of_getElem? (i := 47) rfl)) rfl
theorem fl_X3_40 : Cond.fieldLink RX3 40 "KindJudge$Kinds" "ABOVE" "[I" ∈ gw := gw_at 607 (by decide +kernel) rfl
theorem ki_X2_122 : Cond.constant RX2 122 (100000) ∈ gw := gw_at 609 (by decide +kernel) rfl
theorem ml_X2_123 : Cond.methodLink RX2 123 yX2_handsOn ∈ gw := gw_at 610 (by decide +kernel) rfl
theorem im_X2_handsOn : Cond.instanceMethod yX2_handsOn ∈ gw := gw_at 612 (by decide +kernel) rfl
theorem cd_X2_handsOn : Cond.code yX2_handsOn cX2_handsOn 5 (some .boolean) ∈ gw := gw_in (tb_3 (List.mem_of_getElem? (i := 54) rfl)) rfl
theorem ml_L_48 : Cond.methodLink RL 48 yX9_kind ∈ gw := gw_at 614 (by decide +kernel) rfl
theorem im_X9_kind : Cond.instanceMethod yX9_kind ∈ gw := gw_at 615 (by decide +kernel) rfl
theorem se_X9_kind : Cond.selects RX9 yX9_kind yX9_kind ∈ gw := gw_at 616 (by decide +kernel) rfl
theorem cd_X9_kind : Cond.code yX9_kind cX9_kind 3 (some .int) ∈ gw := gw_in (tb_3 (List.mem_of_getElem? (i := 58) rfl)) rfl
theorem ml_X9_82 : Cond.methodLink RX9 82 yX2_kindAhead ∈ gw := gw_at 618 (by decide +kernel) rfl
theorem im_X2_kindAhead : Cond.instanceMethod yX2_kindAhead ∈ gw := gw_at 619 (by decide +kernel) rfl
theorem se_X2_kindAhead : Cond.selects RX2 yX2_kindAhead yX2_kindAhead ∈ gw := gw_at 620 (by decide +kernel) rfl
theorem cd_X2_kindAhead : Cond.code yX2_kindAhead cX2_kindAhead 3 (some .int) ∈ gw := gw_in (tb_3 (List.mem_of_getElem? (i := 62) rfl)) rfl
theorem ml_X2_35 : Cond.methodLink RX2 35 yX6_has ∈ gw := gw_at 622 (by decide +kernel) rfl
theorem ki_X2_39 : Cond.constant RX2 39 (-99999999) ∈ gw := gw_at 623 (by decide +kernel) rfl
theorem ml_L_53 : Cond.methodLink RL 53 yX9_rounds ∈ gw := gw_at 624 (by decide +kernel) rfl
theorem im_X9_rounds : Cond.instanceMethod yX9_rounds ∈ gw := gw_at 625 (by decide +kernel) rfl
theorem se_X9_rounds : Cond.selects RX9 yX9_rounds yX9_rounds ∈ gw := gw_at 626 (by decide +kernel) rfl
theorem cd_X9_rounds : Cond.code yX9_rounds cX9_rounds 1 (some .int) ∈ gw := gw_in (tb_3 (List.mem_of_getElem? (i := 68) rfl)) rfl
theorem ml_L_58 : Cond.methodLink RL 58 yX9_kinds ∈ gw := gw_at 628 (by decide +kernel) rfl
theorem im_X9_kinds : Cond.instanceMethod yX9_kinds ∈ gw := gw_at 629 (by decide +kernel) rfl
theorem se_X9_kinds : Cond.selects RX9 yX9_kinds yX9_kinds ∈ gw := gw_at 630 (by decide +kernel) rfl
theorem cd_X9_kinds : Cond.code yX9_kinds cX9_kinds 4 (some .int) ∈ gw := gw_in (tb_3 (List.mem_of_getElem? (i := 72) rfl)) rfl
theorem ml_X9_89 : Cond.methodLink RX9 89 yX3_goesTo ∈ gw := gw_at 632 (by decide +kernel) rfl
theorem ml_X9_93 : Cond.methodLink RX9 93 yX3_joinOf ∈ gw := gw_at 633 (by decide +kernel) rfl
theorem ml_L_63 : Cond.methodLink RL 63 yX9_run ∈ gw := gw_at 634 (by decide +kernel) rfl
theorem im_X9_run : Cond.instanceMethod yX9_run ∈ gw := gw_at 635 (by decide +kernel) rfl
theorem se_X9_run : Cond.selects RX9 yX9_run yX9_run ∈ gw := gw_at 636 (by decide +kernel) rfl
theorem cd_X9_run : Cond.code yX9_run cX9_run 7 (some .int) ∈ gw := gw_in (tb_3 (List.mem_of_getElem? (i := 78) rfl)) rfl
theorem ml_X9_96 : Cond.methodLink RX9 96 yX7_isReady ∈ gw := gw_at 638 (by decide +kernel) rfl
theorem im_X7_isReady : Cond.instanceMethod yX7_isReady ∈ gw := gw_at 639 (by decide +kernel) rfl
theorem se_X7_isReady : Cond.selects RX7 yX7_isReady yX7_isReady ∈ gw := gw_at 640 (by decide +kernel) rfl
theorem cd_X7_isReady : Cond.code yX7_isReady cX7_isReady 5 (some .boolean) ∈ gw := gw_in (tb_3 (List.mem_of_getElem? (i := 82) rfl)) rfl
theorem ml_X7_28 : Cond.methodLink RX7 28 yX0_called ∈ gw := gw_at 642 (by decide +kernel) rfl
theorem im_X0_called : Cond.instanceMethod yX0_called ∈ gw := gw_at 643 (by decide +kernel) rfl
theorem se_X0_called : Cond.selects RX0 yX0_called yX0_called ∈ gw := gw_at 644 (by decide +kernel) rfl
theorem cd_X0_called : Cond.code yX0_called cX0_called 3 (some .int) ∈ gw := gw_in (tb_3 (List.mem_of_getElem? (i := 86) rfl)) rfl
theorem ml_X9_99 : Cond.methodLink RX9 99 yX4_prepare ∈ gw := gw_at 646 (by decide +kernel) rfl
theorem im_X4_prepare : Cond.instanceMethod yX4_prepare ∈ gw := gw_at 647 (by decide +kernel) rfl
theorem se_X4_prepare : Cond.selects RX4 yX4_prepare yX4_prepare ∈ gw := gw_at 648 (by decide +kernel) rfl
theorem cd_X4_prepare : Cond.code yX4_prepare cX4_prepare 2 none ∈ gw := gw_in (tb_3 (List.mem_of_getElem? (i := 90) rfl)) rfl
theorem ml_X4_53 : Cond.methodLink RX4 53 yX4_enter ∈ gw := gw_at 650 (by decide +kernel) rfl
theorem im_X4_enter : Cond.instanceMethod yX4_enter ∈ gw := gw_at 652 (by decide +kernel) rfl
theorem cd_X4_enter : Cond.code yX4_enter cX4_enter 2 none ∈ gw := gw_in (tb_3 (List.mem_of_getElem? (i := 94) rfl)) rfl
theorem ml_X9_103 : Cond.methodLink RX9 103 yX4_giveParams ∈ gw := gw_at 654 (by decide +kernel) rfl
theorem im_X4_giveParams : Cond.instanceMethod yX4_giveParams ∈ gw := gw_at 655 (by decide +kernel) rfl
theorem se_X4_giveParams : Cond.selects RX4 yX4_giveParams yX4_giveParams ∈ gw := gw_at 656 (by decide +kernel) rfl
theorem cd_X4_giveParams : Cond.code yX4_giveParams cX4_giveParams 5 none ∈ gw := gw_in (tb_3 (List.mem_of_getElem? (i := 98) rfl)) rfl
theorem ml_X9_107 : Cond.methodLink RX9 107 yX4_goOn ∈ gw := gw_at 658 (by decide +kernel) rfl
theorem im_X4_goOn : Cond.instanceMethod yX4_goOn ∈ gw := gw_at 659 (by decide +kernel) rfl
theorem se_X4_goOn : Cond.selects RX4 yX4_goOn yX4_goOn ∈ gw := gw_at 660 (by decide +kernel) rfl
theorem cd_X4_goOn : Cond.code yX4_goOn cX4_goOn 2 (some .int) ∈ gw := gw_in (tb_3 (List.mem_of_getElem? (i := 102) rfl)) rfl
theorem ml_X4_72 : Cond.methodLink RX4 72 yX4_doNext ∈ gw := gw_at 662 (by decide +kernel) rfl
theorem im_X4_doNext : Cond.instanceMethod yX4_doNext ∈ gw := gw_at 664 (by decide +kernel) rfl
theorem cd_X4_doNext : Cond.code yX4_doNext cX4_doNext 5 none ∈ gw := gw_in (tb_3 (List.mem_of_getElem? (i := 106) rfl)) rfl
theorem ml_X4_76 : Cond.methodLink RX4 76 yX0_hasInstruction ∈ gw := gw_at 666 (by decide +kernel) rfl
theorem ml_X4_86 : Cond.methodLink RX4 86 yX4_does ∈ gw := gw_at 667 (by decide +kernel) rfl
theorem im_X4_does : Cond.instanceMethod yX4_does ∈ gw := gw_at 669 (by decide +kernel) rfl
theorem cd_X4_does : Cond.code yX4_does cX4_does 5 (some .int) ∈ gw := gw_in (tb_3 (List.mem_of_getElem? (i := 111) rfl)) rfl
theorem ml_X4_122 : Cond.methodLink RX4 122 yX4_moves ∈ gw := gw_at 671 (by decide +kernel) rfl
theorem im_X4_moves : Cond.instanceMethod yX4_moves ∈ gw := gw_at 673 (by decide +kernel) rfl
theorem cd_X4_moves : Cond.code yX4_moves cX4_moves 5 (some .int) ∈ gw := gw_in (tb_3 (List.mem_of_getElem? (i := 115) rfl)) rfl
theorem ml_X4_112 : Cond.methodLink RX4 112 yX4_push ∈ gw := gw_at 675 (by decide +kernel) rfl
theorem im_X4_push : Cond.instanceMethod yX4_push ∈ gw := gw_at 677 (by decide +kernel) rfl
theorem cd_X4_push : Cond.code yX4_push cX4_push 3 none ∈ gw := gw_in (tb_3 (List.mem_of_getElem? (i := 119) rfl)) rfl
theorem ml_X4_148 : Cond.methodLink RX4 148 yX4_pushLong ∈ gw := gw_at 679 (by decide +kernel) rfl
theorem im_X4_pushLong : Cond.instanceMethod yX4_pushLong ∈ gw := gw_at 681 (by decide +kernel) rfl
theorem cd_X4_pushLong : Cond.code yX4_pushLong cX4_pushLong 3 none ∈ gw := gw_in (tb_3 (List.mem_of_getElem? (i := 123) rfl)) rfl
theorem kl_X4_151 : Cond.constantLong RX4 151 (8) ∈ gw := gw_at 683 (by decide +kernel) rfl
theorem ml_X4_116 : Cond.methodLink RX4 116 yX4_pop ∈ gw := gw_at 684 (by decide +kernel) rfl
theorem im_X4_pop : Cond.instanceMethod yX4_pop ∈ gw := gw_at 686 (by decide +kernel) rfl
theorem cd_X4_pop : Cond.code yX4_pop cX4_pop 1 (some .long) ∈ gw := gw_in (tb_3 (List.mem_of_getElem? (i := 128) rfl)) rfl
theorem ml_X4_153 : Cond.methodLink RX4 153 yX4_popLong ∈ gw := gw_at 688 (by decide +kernel) rfl
theorem im_X4_popLong : Cond.instanceMethod yX4_popLong ∈ gw := gw_at 690 (by decide +kernel) rfl
theorem cd_X4_popLong : Cond.code yX4_popLong cX4_popLong 1 (some .long) ∈ gw := gw_in (tb_3 (List.mem_of_getElem? (i := 132) rfl)) rfl
theorem ml_X4_126 : Cond.methodLink RX4 126 yX4_reckons ∈ gw := gw_at 692 (by decide +kernel) rfl
theorem im_X4_reckons : Cond.instanceMethod yX4_reckons ∈ gw := gw_at 694 (by decide +kernel) rfl
theorem cd_X4_reckons : Cond.code yX4_reckons cX4_reckons 8 (some .int) ∈ gw := gw_in (tb_3 (List.mem_of_getElem? (i := 136) rfl)) rfl
theorem ml_X4_156 : Cond.methodLink RX4 156 yX4_relatesInts ∈ gw := gw_at 696 (by decide +kernel) rfl
theorem im_X4_relatesInts : Cond.instanceMethod yX4_relatesInts ∈ gw := gw_at 698 (by decide +kernel) rfl
theorem cd_X4_relatesInts : Cond.code yX4_relatesInts cX4_relatesInts 4 (some .int) ∈ gw := gw_in (tb_3 (List.mem_of_getElem? (i := 140) rfl)) rfl
theorem ml_X4_162 : Cond.methodLink RX4 162 yX4_popInt ∈ gw := gw_at 700 (by decide +kernel) rfl
theorem im_X4_popInt : Cond.instanceMethod yX4_popInt ∈ gw := gw_at 702 (by decide +kernel) rfl
theorem cd_X4_popInt : Cond.code yX4_popInt cX4_popInt 1 (some .int) ∈ gw := gw_in (tb_3 (List.mem_of_getElem? (i := 144) rfl)) rfl
theorem ml_X4_166 : Cond.methodLink RX4 166 yX4_related ∈ gw := gw_at 704 (by decide +kernel) rfl
theorem st_X4_related : Cond.static yX4_related ∈ gw := gw_at 705 (by decide +kernel) rfl
theorem cd_X4_related : Cond.code yX4_related cX4_related 5 (some .long) ∈ gw := gw_in (tb_3 (List.mem_of_getElem? (i := 147) rfl)) rfl
theorem ml_X4_159 : Cond.methodLink RX4 159 yX4_relatesLongs ∈ gw := gw_at 707 (by decide +kernel) rfl
theorem im_X4_relatesLongs : Cond.instanceMethod yX4_relatesLongs ∈ gw := gw_at 709 (by decide +kernel) rfl
theorem cd_X4_relatesLongs : Cond.code yX4_relatesLongs cX4_relatesLongs 6 (some .int) ∈ gw := gw_in (tb_3 (List.mem_of_getElem? (i := 151) rfl)) rfl
theorem ml_X4_129 : Cond.methodLink RX4 129 yX4_makes ∈ gw := gw_at 711 (by decide +kernel) rfl
theorem im_X4_makes : Cond.instanceMethod yX4_makes ∈ gw := gw_at 713 (by decide +kernel) rfl
theorem cd_X4_makes : Cond.code yX4_makes cX4_makes 4 (some .int) ∈ gw := gw_in (tb_3 (List.mem_of_getElem? (i := 155) rfl)) rfl
theorem ml_X4_172 : Cond.methodLink RX4 172 yX4_pushNew ∈ gw := gw_at 715 (by decide +kernel) rfl
theorem im_X4_pushNew : Cond.instanceMethod yX4_pushNew ∈ gw := gw_at 717 (by decide +kernel) rfl
theorem cd_X4_pushNew : Cond.code yX4_pushNew cX4_pushNew 4 (some .int) ∈ gw := gw_in (tb_3 (List.mem_of_getElem? (i := 159) rfl)) rfl
theorem ml_X4_175 : Cond.methodLink RX4 175 yX1_make ∈ gw := gw_at 719 (by decide +kernel) rfl
theorem im_X1_make : Cond.instanceMethod yX1_make ∈ gw := gw_at 720 (by decide +kernel) rfl
theorem se_X1_make : Cond.selects RX1 yX1_make yX1_make ∈ gw := gw_at 721 (by decide +kernel) rfl
theorem cd_X1_make : Cond.code yX1_make cX1_make 4 (some .int) ∈ gw := gw_in (tb_3 (List.mem_of_getElem? (i := 163) rfl)) rfl
theorem ml_X4_100 : Cond.methodLink RX4 100 yX4_end ∈ gw := gw_at 723 (by decide +kernel) rfl
