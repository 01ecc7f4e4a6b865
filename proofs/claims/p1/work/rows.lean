section
-- ===== PART A: goes FIRST, ahead of the names: the tables' words, and 'selects' of the private methods out of them =====
/-- a private method of a class that the tables say can be made, by its rows of tables_1 -/
def lw_okq (q : MethodName × Nat) : Prop := (q.1.cls ≠ "java/lang/invoke/MethodHandle" ∧ q.1.cls ≠ "java/lang/invoke/VarHandle") ∧ Cond.instantiable q.1.cls q.2 ∈ tables_1 ∧ Cond.privateMethod q.1 ∈ tables_1 ∧ Cond.instanceMethod q.1 ∈ tables_1
theorem lw_p0 : lw_okq (⟨"KindJudge$Judging", "forget", "(LKindJudge$Code;)V"⟩, 6) := ⟨⟨by decide +kernel, by decide +kernel⟩, List.mem_of_getElem? (i := 37) (by decide +kernel), List.mem_of_getElem? (i := 332) (by decide +kernel), List.mem_of_getElem? (i := 333) (by decide +kernel)⟩
theorem lw_p1 : lw_okq (⟨"KindJudge$Step", "moves", "(IJ)Z"⟩, 3) := ⟨⟨by decide +kernel, by decide +kernel⟩, List.mem_of_getElem? (i := 62) (by decide +kernel), List.mem_of_getElem? (i := 372) (by decide +kernel), List.mem_of_getElem? (i := 373) (by decide +kernel)⟩
theorem lw_p2 : lw_okq (⟨"KindJudge$Step", "stores", "(I)Z"⟩, 3) := ⟨⟨by decide +kernel, by decide +kernel⟩, List.mem_of_getElem? (i := 62) (by decide +kernel), List.mem_of_getElem? (i := 389) (by decide +kernel), List.mem_of_getElem? (i := 390) (by decide +kernel)⟩
theorem lw_p3 : lw_okq (⟨"KindJudge$Step", "holdsLong", "(I)Z"⟩, 3) := ⟨⟨by decide +kernel, by decide +kernel⟩, List.mem_of_getElem? (i := 62) (by decide +kernel), List.mem_of_getElem? (i := 406) (by decide +kernel), List.mem_of_getElem? (i := 407) (by decide +kernel)⟩
theorem lw_p4 : lw_okq (⟨"KindJudge$Step", "storesLong", "(I)Z"⟩, 3) := ⟨⟨by decide +kernel, by decide +kernel⟩, List.mem_of_getElem? (i := 62) (by decide +kernel), List.mem_of_getElem? (i := 410) (by decide +kernel), List.mem_of_getElem? (i := 411) (by decide +kernel)⟩
theorem lw_p5 : lw_okq (⟨"KindJudge$Step", "reckons", "(IJ)Z"⟩, 3) := ⟨⟨by decide +kernel, by decide +kernel⟩, List.mem_of_getElem? (i := 62) (by decide +kernel), List.mem_of_getElem? (i := 423) (by decide +kernel), List.mem_of_getElem? (i := 424) (by decide +kernel)⟩
theorem lw_p6 : lw_okq (⟨"KindJudge$Step", "begins", "(IJ)Z"⟩, 3) := ⟨⟨by decide +kernel, by decide +kernel⟩, List.mem_of_getElem? (i := 62) (by decide +kernel), List.mem_of_getElem? (i := 432) (by decide +kernel), List.mem_of_getElem? (i := 433) (by decide +kernel)⟩
theorem lw_p7 : lw_okq (⟨"KindJudge$Step", "finishes", "(LKindJudge$Code;J)Z"⟩, 3) := ⟨⟨by decide +kernel, by decide +kernel⟩, List.mem_of_getElem? (i := 62) (by decide +kernel), List.mem_of_getElem? (i := 448) (by decide +kernel), List.mem_of_getElem? (i := 449) (by decide +kernel)⟩
theorem lw_p8 : lw_okq (⟨"KindJudge$Step", "usesArray", "(IJ)Z"⟩, 3) := ⟨⟨by decide +kernel, by decide +kernel⟩, List.mem_of_getElem? (i := 62) (by decide +kernel), List.mem_of_getElem? (i := 453) (by decide +kernel), List.mem_of_getElem? (i := 454) (by decide +kernel)⟩
theorem lw_p9 : lw_okq (⟨"KindJudge$Step", "takes", "(I)Z"⟩, 3) := ⟨⟨by decide +kernel, by decide +kernel⟩, List.mem_of_getElem? (i := 62) (by decide +kernel), List.mem_of_getElem? (i := 463) (by decide +kernel), List.mem_of_getElem? (i := 464) (by decide +kernel)⟩
theorem lw_p10 : lw_okq (⟨"KindJudge$Step", "usesObject", "(IJ)Z"⟩, 3) := ⟨⟨by decide +kernel, by decide +kernel⟩, List.mem_of_getElem? (i := 62) (by decide +kernel), List.mem_of_getElem? (i := 468) (by decide +kernel), List.mem_of_getElem? (i := 469) (by decide +kernel)⟩
theorem lw_p11 : lw_okq (⟨"KindJudge$Step", "turns", "(I)Z"⟩, 3) := ⟨⟨by decide +kernel, by decide +kernel⟩, List.mem_of_getElem? (i := 62) (by decide +kernel), List.mem_of_getElem? (i := 476) (by decide +kernel), List.mem_of_getElem? (i := 477) (by decide +kernel)⟩
theorem lw_p12 : lw_okq (⟨"KindJudge$Step", "calls", "(LKindJudge$Program;LKindJudge$Code;J)Z"⟩, 3) := ⟨⟨by decide +kernel, by decide +kernel⟩, List.mem_of_getElem? (i := 62) (by decide +kernel), List.mem_of_getElem? (i := 480) (by decide +kernel), List.mem_of_getElem? (i := 481) (by decide +kernel)⟩
theorem lw_p13 : lw_okq (⟨"KindJudge$Step", "goesElsewhere", "(LKindJudge$Code;IJ)Z"⟩, 3) := ⟨⟨by decide +kernel, by decide +kernel⟩, List.mem_of_getElem? (i := 62) (by decide +kernel), List.mem_of_getElem? (i := 485) (by decide +kernel), List.mem_of_getElem? (i := 486) (by decide +kernel)⟩
theorem lw_p14 : lw_okq (⟨"KindJudge$Judging", "leadsToFrame", "(LKindJudge$Code;)Z"⟩, 6) := ⟨⟨by decide +kernel, by decide +kernel⟩, List.mem_of_getElem? (i := 37) (by decide +kernel), List.mem_of_getElem? (i := 489) (by decide +kernel), List.mem_of_getElem? (i := 490) (by decide +kernel)⟩
theorem lw_p15 : lw_okq (⟨"KindJudge$Judging", "handlersFit", "(LKindJudge$Code;I)Z"⟩, 6) := ⟨⟨by decide +kernel, by decide +kernel⟩, List.mem_of_getElem? (i := 37) (by decide +kernel), List.mem_of_getElem? (i := 493) (by decide +kernel), List.mem_of_getElem? (i := 494) (by decide +kernel)⟩
def lw_privs_1 : List (MethodName × Nat) := [(⟨"KindJudge$Judging", "forget", "(LKindJudge$Code;)V"⟩, 6), (⟨"KindJudge$Step", "moves", "(IJ)Z"⟩, 3), (⟨"KindJudge$Step", "stores", "(I)Z"⟩, 3), (⟨"KindJudge$Step", "holdsLong", "(I)Z"⟩, 3), (⟨"KindJudge$Step", "storesLong", "(I)Z"⟩, 3), (⟨"KindJudge$Step", "reckons", "(IJ)Z"⟩, 3), (⟨"KindJudge$Step", "begins", "(IJ)Z"⟩, 3), (⟨"KindJudge$Step", "finishes", "(LKindJudge$Code;J)Z"⟩, 3), (⟨"KindJudge$Step", "usesArray", "(IJ)Z"⟩, 3), (⟨"KindJudge$Step", "takes", "(I)Z"⟩, 3), (⟨"KindJudge$Step", "usesObject", "(IJ)Z"⟩, 3), (⟨"KindJudge$Step", "turns", "(I)Z"⟩, 3), (⟨"KindJudge$Step", "calls", "(LKindJudge$Program;LKindJudge$Code;J)Z"⟩, 3), (⟨"KindJudge$Step", "goesElsewhere", "(LKindJudge$Code;IJ)Z"⟩, 3), (⟨"KindJudge$Judging", "leadsToFrame", "(LKindJudge$Code;)Z"⟩, 6), (⟨"KindJudge$Judging", "handlersFit", "(LKindJudge$Code;I)Z"⟩, 6)]
theorem lw_r1 : ∀ q ∈ lw_privs_1, lw_okq q := List.forall_mem_cons.mpr ⟨lw_p0, List.forall_mem_cons.mpr ⟨lw_p1, List.forall_mem_cons.mpr ⟨lw_p2, List.forall_mem_cons.mpr ⟨lw_p3, List.forall_mem_cons.mpr ⟨lw_p4, List.forall_mem_cons.mpr ⟨lw_p5, List.forall_mem_cons.mpr ⟨lw_p6, List.forall_mem_cons.mpr ⟨lw_p7, List.forall_mem_cons.mpr ⟨lw_p8, List.forall_mem_cons.mpr ⟨lw_p9, List.forall_mem_cons.mpr ⟨lw_p10, List.forall_mem_cons.mpr ⟨lw_p11, List.forall_mem_cons.mpr ⟨lw_p12, List.forall_mem_cons.mpr ⟨lw_p13, List.forall_mem_cons.mpr ⟨lw_p14, List.forall_mem_cons.mpr ⟨lw_p15, fun _ h => absurd h List.not_mem_nil⟩⟩⟩⟩⟩⟩⟩⟩⟩⟩⟩⟩⟩⟩⟩⟩
theorem lw_p16 : lw_okq (⟨"KindJudge$Judging", "arrives", "(LKindJudge$Code;ILKindJudge$Places;)Z"⟩, 6) := ⟨⟨by decide +kernel, by decide +kernel⟩, List.mem_of_getElem? (i := 37) (by decide +kernel), List.mem_of_getElem? (i := 515) (by decide +kernel), List.mem_of_getElem? (i := 516) (by decide +kernel)⟩
theorem lw_p17 : lw_okq (⟨"KindJudge$Judging", "handsOn", "(LKindJudge$Program;LKindJudge$Code;I)Z"⟩, 6) := ⟨⟨by decide +kernel, by decide +kernel⟩, List.mem_of_getElem? (i := 37) (by decide +kernel), List.mem_of_getElem? (i := 532) (by decide +kernel), List.mem_of_getElem? (i := 533) (by decide +kernel)⟩
theorem lw_p18 : lw_okq (⟨"KindJudge$Machine", "enter", "(LKindJudge$Code;)V"⟩, 14) := ⟨⟨by decide +kernel, by decide +kernel⟩, List.mem_of_getElem? (i := 103) (by decide +kernel), List.mem_of_getElem? (i := 572) (by decide +kernel), List.mem_of_getElem? (i := 573) (by decide +kernel)⟩
theorem lw_p19 : lw_okq (⟨"KindJudge$Machine", "doNext", "(LKindJudge$Program;)V"⟩, 14) := ⟨⟨by decide +kernel, by decide +kernel⟩, List.mem_of_getElem? (i := 103) (by decide +kernel), List.mem_of_getElem? (i := 584) (by decide +kernel), List.mem_of_getElem? (i := 585) (by decide +kernel)⟩
theorem lw_p20 : lw_okq (⟨"KindJudge$Machine", "does", "(LKindJudge$Program;IJ)I"⟩, 14) := ⟨⟨by decide +kernel, by decide +kernel⟩, List.mem_of_getElem? (i := 103) (by decide +kernel), List.mem_of_getElem? (i := 589) (by decide +kernel), List.mem_of_getElem? (i := 590) (by decide +kernel)⟩
theorem lw_p21 : lw_okq (⟨"KindJudge$Machine", "moves", "(IJ)I"⟩, 14) := ⟨⟨by decide +kernel, by decide +kernel⟩, List.mem_of_getElem? (i := 103) (by decide +kernel), List.mem_of_getElem? (i := 593) (by decide +kernel), List.mem_of_getElem? (i := 594) (by decide +kernel)⟩
theorem lw_p22 : lw_okq (⟨"KindJudge$Machine", "push", "(J)V"⟩, 14) := ⟨⟨by decide +kernel, by decide +kernel⟩, List.mem_of_getElem? (i := 103) (by decide +kernel), List.mem_of_getElem? (i := 597) (by decide +kernel), List.mem_of_getElem? (i := 598) (by decide +kernel)⟩
theorem lw_p23 : lw_okq (⟨"KindJudge$Machine", "pushLong", "(J)V"⟩, 14) := ⟨⟨by decide +kernel, by decide +kernel⟩, List.mem_of_getElem? (i := 103) (by decide +kernel), List.mem_of_getElem? (i := 601) (by decide +kernel), List.mem_of_getElem? (i := 602) (by decide +kernel)⟩
theorem lw_p24 : lw_okq (⟨"KindJudge$Machine", "pop", "()J"⟩, 14) := ⟨⟨by decide +kernel, by decide +kernel⟩, List.mem_of_getElem? (i := 103) (by decide +kernel), List.mem_of_getElem? (i := 606) (by decide +kernel), List.mem_of_getElem? (i := 607) (by decide +kernel)⟩
theorem lw_p25 : lw_okq (⟨"KindJudge$Machine", "popLong", "()J"⟩, 14) := ⟨⟨by decide +kernel, by decide +kernel⟩, List.mem_of_getElem? (i := 103) (by decide +kernel), List.mem_of_getElem? (i := 610) (by decide +kernel), List.mem_of_getElem? (i := 611) (by decide +kernel)⟩
theorem lw_p26 : lw_okq (⟨"KindJudge$Machine", "reckons", "(IJ)I"⟩, 14) := ⟨⟨by decide +kernel, by decide +kernel⟩, List.mem_of_getElem? (i := 103) (by decide +kernel), List.mem_of_getElem? (i := 614) (by decide +kernel), List.mem_of_getElem? (i := 615) (by decide +kernel)⟩
theorem lw_p27 : lw_okq (⟨"KindJudge$Machine", "relatesInts", "(I)I"⟩, 14) := ⟨⟨by decide +kernel, by decide +kernel⟩, List.mem_of_getElem? (i := 103) (by decide +kernel), List.mem_of_getElem? (i := 618) (by decide +kernel), List.mem_of_getElem? (i := 619) (by decide +kernel)⟩
theorem lw_p28 : lw_okq (⟨"KindJudge$Machine", "popInt", "()I"⟩, 14) := ⟨⟨by decide +kernel, by decide +kernel⟩, List.mem_of_getElem? (i := 103) (by decide +kernel), List.mem_of_getElem? (i := 622) (by decide +kernel), List.mem_of_getElem? (i := 623) (by decide +kernel)⟩
theorem lw_p29 : lw_okq (⟨"KindJudge$Machine", "relatesLongs", "(I)I"⟩, 14) := ⟨⟨by decide +kernel, by decide +kernel⟩, List.mem_of_getElem? (i := 103) (by decide +kernel), List.mem_of_getElem? (i := 629) (by decide +kernel), List.mem_of_getElem? (i := 630) (by decide +kernel)⟩
theorem lw_p30 : lw_okq (⟨"KindJudge$Machine", "makes", "(IJ)I"⟩, 14) := ⟨⟨by decide +kernel, by decide +kernel⟩, List.mem_of_getElem? (i := 103) (by decide +kernel), List.mem_of_getElem? (i := 633) (by decide +kernel), List.mem_of_getElem? (i := 634) (by decide +kernel)⟩
theorem lw_p31 : lw_okq (⟨"KindJudge$Machine", "pushNew", "(II)I"⟩, 14) := ⟨⟨by decide +kernel, by decide +kernel⟩, List.mem_of_getElem? (i := 103) (by decide +kernel), List.mem_of_getElem? (i := 637) (by decide +kernel), List.mem_of_getElem? (i := 638) (by decide +kernel)⟩
def lw_privs_2 : List (MethodName × Nat) := [(⟨"KindJudge$Judging", "arrives", "(LKindJudge$Code;ILKindJudge$Places;)Z"⟩, 6), (⟨"KindJudge$Judging", "handsOn", "(LKindJudge$Program;LKindJudge$Code;I)Z"⟩, 6), (⟨"KindJudge$Machine", "enter", "(LKindJudge$Code;)V"⟩, 14), (⟨"KindJudge$Machine", "doNext", "(LKindJudge$Program;)V"⟩, 14), (⟨"KindJudge$Machine", "does", "(LKindJudge$Program;IJ)I"⟩, 14), (⟨"KindJudge$Machine", "moves", "(IJ)I"⟩, 14), (⟨"KindJudge$Machine", "push", "(J)V"⟩, 14), (⟨"KindJudge$Machine", "pushLong", "(J)V"⟩, 14), (⟨"KindJudge$Machine", "pop", "()J"⟩, 14), (⟨"KindJudge$Machine", "popLong", "()J"⟩, 14), (⟨"KindJudge$Machine", "reckons", "(IJ)I"⟩, 14), (⟨"KindJudge$Machine", "relatesInts", "(I)I"⟩, 14), (⟨"KindJudge$Machine", "popInt", "()I"⟩, 14), (⟨"KindJudge$Machine", "relatesLongs", "(I)I"⟩, 14), (⟨"KindJudge$Machine", "makes", "(IJ)I"⟩, 14), (⟨"KindJudge$Machine", "pushNew", "(II)I"⟩, 14)]
theorem lw_r2 : ∀ q ∈ lw_privs_2, lw_okq q := List.forall_mem_cons.mpr ⟨lw_p16, List.forall_mem_cons.mpr ⟨lw_p17, List.forall_mem_cons.mpr ⟨lw_p18, List.forall_mem_cons.mpr ⟨lw_p19, List.forall_mem_cons.mpr ⟨lw_p20, List.forall_mem_cons.mpr ⟨lw_p21, List.forall_mem_cons.mpr ⟨lw_p22, List.forall_mem_cons.mpr ⟨lw_p23, List.forall_mem_cons.mpr ⟨lw_p24, List.forall_mem_cons.mpr ⟨lw_p25, List.forall_mem_cons.mpr ⟨lw_p26, List.forall_mem_cons.mpr ⟨lw_p27, List.forall_mem_cons.mpr ⟨lw_p28, List.forall_mem_cons.mpr ⟨lw_p29, List.forall_mem_cons.mpr ⟨lw_p30, List.forall_mem_cons.mpr ⟨lw_p31, fun _ h => absurd h List.not_mem_nil⟩⟩⟩⟩⟩⟩⟩⟩⟩⟩⟩⟩⟩⟩⟩⟩
theorem lw_p32 : lw_okq (⟨"KindJudge$Machine", "end", "(II)V"⟩, 14) := ⟨⟨by decide +kernel, by decide +kernel⟩, List.mem_of_getElem? (i := 103) (by decide +kernel), List.mem_of_getElem? (i := 645) (by decide +kernel), List.mem_of_getElem? (i := 646) (by decide +kernel)⟩
theorem lw_p33 : lw_okq (⟨"KindJudge$Machine", "usesArray", "(I)I"⟩, 14) := ⟨⟨by decide +kernel, by decide +kernel⟩, List.mem_of_getElem? (i := 103) (by decide +kernel), List.mem_of_getElem? (i := 649) (by decide +kernel), List.mem_of_getElem? (i := 650) (by decide +kernel)⟩
theorem lw_p34 : lw_okq (⟨"KindJudge$Machine", "asks", "(II)I"⟩, 14) := ⟨⟨by decide +kernel, by decide +kernel⟩, List.mem_of_getElem? (i := 103) (by decide +kernel), List.mem_of_getElem? (i := 685) (by decide +kernel), List.mem_of_getElem? (i := 686) (by decide +kernel)⟩
theorem lw_p35 : lw_okq (⟨"KindJudge$Machine", "usesObject", "(I)I"⟩, 14) := ⟨⟨by decide +kernel, by decide +kernel⟩, List.mem_of_getElem? (i := 103) (by decide +kernel), List.mem_of_getElem? (i := 690) (by decide +kernel), List.mem_of_getElem? (i := 691) (by decide +kernel)⟩
theorem lw_p36 : lw_okq (⟨"KindJudge$Machine", "turns", "(I)I"⟩, 14) := ⟨⟨by decide +kernel, by decide +kernel⟩, List.mem_of_getElem? (i := 103) (by decide +kernel), List.mem_of_getElem? (i := 706) (by decide +kernel), List.mem_of_getElem? (i := 707) (by decide +kernel)⟩
theorem lw_p37 : lw_okq (⟨"KindJudge$Machine", "leads", "(LKindJudge$Program;IJ)I"⟩, 14) := ⟨⟨by decide +kernel, by decide +kernel⟩, List.mem_of_getElem? (i := 103) (by decide +kernel), List.mem_of_getElem? (i := 710) (by decide +kernel), List.mem_of_getElem? (i := 711) (by decide +kernel)⟩
theorem lw_p38 : lw_okq (⟨"KindJudge$Machine", "jumpsIf", "(ZJ)I"⟩, 14) := ⟨⟨by decide +kernel, by decide +kernel⟩, List.mem_of_getElem? (i := 103) (by decide +kernel), List.mem_of_getElem? (i := 714) (by decide +kernel), List.mem_of_getElem? (i := 715) (by decide +kernel)⟩
theorem lw_p39 : lw_okq (⟨"KindJudge$Machine", "returns", "(I)I"⟩, 14) := ⟨⟨by decide +kernel, by decide +kernel⟩, List.mem_of_getElem? (i := 103) (by decide +kernel), List.mem_of_getElem? (i := 718) (by decide +kernel), List.mem_of_getElem? (i := 719) (by decide +kernel)⟩
theorem lw_p40 : lw_okq (⟨"KindJudge$Machine", "calls", "(LKindJudge$Code;)I"⟩, 14) := ⟨⟨by decide +kernel, by decide +kernel⟩, List.mem_of_getElem? (i := 103) (by decide +kernel), List.mem_of_getElem? (i := 723) (by decide +kernel), List.mem_of_getElem? (i := 724) (by decide +kernel)⟩
theorem lw_p41 : lw_okq (⟨"KindJudge$Machine", "arises", "(I)V"⟩, 14) := ⟨⟨by decide +kernel, by decide +kernel⟩, List.mem_of_getElem? (i := 103) (by decide +kernel), List.mem_of_getElem? (i := 727) (by decide +kernel), List.mem_of_getElem? (i := 728) (by decide +kernel)⟩
theorem lw_p42 : lw_okq (⟨"KindJudge$Machine", "catches", "(LKindJudge$Code;II)Z"⟩, 14) := ⟨⟨by decide +kernel, by decide +kernel⟩, List.mem_of_getElem? (i := 103) (by decide +kernel), List.mem_of_getElem? (i := 731) (by decide +kernel), List.mem_of_getElem? (i := 732) (by decide +kernel)⟩
theorem lw_p43 : lw_okq (⟨"KindJudgeModel", "isMethod", "(I)Z"⟩, 35) := ⟨⟨by decide +kernel, by decide +kernel⟩, List.mem_of_getElem? (i := 752) (by decide +kernel), List.mem_of_getElem? (i := 914) (by decide +kernel), List.mem_of_getElem? (i := 915) (by decide +kernel)⟩
theorem lw_p44 : lw_okq (⟨"KindJudgeModel", "changed", "(I)V"⟩, 35) := ⟨⟨by decide +kernel, by decide +kernel⟩, List.mem_of_getElem? (i := 752) (by decide +kernel), List.mem_of_getElem? (i := 918) (by decide +kernel), List.mem_of_getElem? (i := 919) (by decide +kernel)⟩
theorem lw_p45 : lw_okq (⟨"KindJudgeModel", "wrongByFrames", "(I)I"⟩, 35) := ⟨⟨by decide +kernel, by decide +kernel⟩, List.mem_of_getElem? (i := 752) (by decide +kernel), List.mem_of_getElem? (i := 942) (by decide +kernel), List.mem_of_getElem? (i := 943) (by decide +kernel)⟩
theorem lw_p46 : lw_okq (⟨"KindJudgeModel", "begins", "(I)V"⟩, 35) := ⟨⟨by decide +kernel, by decide +kernel⟩, List.mem_of_getElem? (i := 752) (by decide +kernel), List.mem_of_getElem? (i := 946) (by decide +kernel), List.mem_of_getElem? (i := 947) (by decide +kernel)⟩
theorem lw_p47 : lw_okq (⟨"KindJudgeModel", "goesToFrame", "(II)Z"⟩, 35) := ⟨⟨by decide +kernel, by decide +kernel⟩, List.mem_of_getElem? (i := 752) (by decide +kernel), List.mem_of_getElem? (i := 950) (by decide +kernel), List.mem_of_getElem? (i := 951) (by decide +kernel)⟩
def lw_privs_3 : List (MethodName × Nat) := [(⟨"KindJudge$Machine", "end", "(II)V"⟩, 14), (⟨"KindJudge$Machine", "usesArray", "(I)I"⟩, 14), (⟨"KindJudge$Machine", "asks", "(II)I"⟩, 14), (⟨"KindJudge$Machine", "usesObject", "(I)I"⟩, 14), (⟨"KindJudge$Machine", "turns", "(I)I"⟩, 14), (⟨"KindJudge$Machine", "leads", "(LKindJudge$Program;IJ)I"⟩, 14), (⟨"KindJudge$Machine", "jumpsIf", "(ZJ)I"⟩, 14), (⟨"KindJudge$Machine", "returns", "(I)I"⟩, 14), (⟨"KindJudge$Machine", "calls", "(LKindJudge$Code;)I"⟩, 14), (⟨"KindJudge$Machine", "arises", "(I)V"⟩, 14), (⟨"KindJudge$Machine", "catches", "(LKindJudge$Code;II)Z"⟩, 14), (⟨"KindJudgeModel", "isMethod", "(I)Z"⟩, 35), (⟨"KindJudgeModel", "changed", "(I)V"⟩, 35), (⟨"KindJudgeModel", "wrongByFrames", "(I)I"⟩, 35), (⟨"KindJudgeModel", "begins", "(I)V"⟩, 35), (⟨"KindJudgeModel", "goesToFrame", "(II)Z"⟩, 35)]
theorem lw_r3 : ∀ q ∈ lw_privs_3, lw_okq q := List.forall_mem_cons.mpr ⟨lw_p32, List.forall_mem_cons.mpr ⟨lw_p33, List.forall_mem_cons.mpr ⟨lw_p34, List.forall_mem_cons.mpr ⟨lw_p35, List.forall_mem_cons.mpr ⟨lw_p36, List.forall_mem_cons.mpr ⟨lw_p37, List.forall_mem_cons.mpr ⟨lw_p38, List.forall_mem_cons.mpr ⟨lw_p39, List.forall_mem_cons.mpr ⟨lw_p40, List.forall_mem_cons.mpr ⟨lw_p41, List.forall_mem_cons.mpr ⟨lw_p42, List.forall_mem_cons.mpr ⟨lw_p43, List.forall_mem_cons.mpr ⟨lw_p44, List.forall_mem_cons.mpr ⟨lw_p45, List.forall_mem_cons.mpr ⟨lw_p46, List.forall_mem_cons.mpr ⟨lw_p47, fun _ h => absurd h List.not_mem_nil⟩⟩⟩⟩⟩⟩⟩⟩⟩⟩⟩⟩⟩⟩⟩⟩
theorem lw_p48 : lw_okq (⟨"KindJudgeModel", "sees", "(I)V"⟩, 35) := ⟨⟨by decide +kernel, by decide +kernel⟩, List.mem_of_getElem? (i := 752) (by decide +kernel), List.mem_of_getElem? (i := 954) (by decide +kernel), List.mem_of_getElem? (i := 955) (by decide +kernel)⟩
theorem lw_p49 : lw_okq (⟨"KindJudgeModel", "handlersFit", "(II)Z"⟩, 35) := ⟨⟨by decide +kernel, by decide +kernel⟩, List.mem_of_getElem? (i := 752) (by decide +kernel), List.mem_of_getElem? (i := 958) (by decide +kernel), List.mem_of_getElem? (i := 959) (by decide +kernel)⟩
theorem lw_p50 : lw_okq (⟨"KindJudgeModel", "does", "(II)Z"⟩, 35) := ⟨⟨by decide +kernel, by decide +kernel⟩, List.mem_of_getElem? (i := 752) (by decide +kernel), List.mem_of_getElem? (i := 962) (by decide +kernel), List.mem_of_getElem? (i := 963) (by decide +kernel)⟩
theorem lw_p51 : lw_okq (⟨"KindJudgeModel", "push", "(I)Z"⟩, 35) := ⟨⟨by decide +kernel, by decide +kernel⟩, List.mem_of_getElem? (i := 752) (by decide +kernel), List.mem_of_getElem? (i := 966) (by decide +kernel), List.mem_of_getElem? (i := 967) (by decide +kernel)⟩
theorem lw_p52 : lw_okq (⟨"KindJudgeModel", "pushLong", "()Z"⟩, 35) := ⟨⟨by decide +kernel, by decide +kernel⟩, List.mem_of_getElem? (i := 752) (by decide +kernel), List.mem_of_getElem? (i := 970) (by decide +kernel), List.mem_of_getElem? (i := 971) (by decide +kernel)⟩
theorem lw_p53 : lw_okq (⟨"KindJudgeModel", "isOneOnTop", "(I)Z"⟩, 35) := ⟨⟨by decide +kernel, by decide +kernel⟩, List.mem_of_getElem? (i := 752) (by decide +kernel), List.mem_of_getElem? (i := 977) (by decide +kernel), List.mem_of_getElem? (i := 978) (by decide +kernel)⟩
theorem lw_p54 : lw_okq (⟨"KindJudgeModel", "local", "(II)V"⟩, 35) := ⟨⟨by decide +kernel, by decide +kernel⟩, List.mem_of_getElem? (i := 752) (by decide +kernel), List.mem_of_getElem? (i := 981) (by decide +kernel), List.mem_of_getElem? (i := 982) (by decide +kernel)⟩
theorem lw_p55 : lw_okq (⟨"KindJudgeModel", "popLong", "()Z"⟩, 35) := ⟨⟨by decide +kernel, by decide +kernel⟩, List.mem_of_getElem? (i := 752) (by decide +kernel), List.mem_of_getElem? (i := 986) (by decide +kernel), List.mem_of_getElem? (i := 987) (by decide +kernel)⟩
theorem lw_p56 : lw_okq (⟨"KindJudgeModel", "pop", "(I)Z"⟩, 35) := ⟨⟨by decide +kernel, by decide +kernel⟩, List.mem_of_getElem? (i := 752) (by decide +kernel), List.mem_of_getElem? (i := 990) (by decide +kernel), List.mem_of_getElem? (i := 991) (by decide +kernel)⟩
theorem lw_p57 : lw_okq (⟨"KindJudgeModel", "isNew", "(IJ)Z"⟩, 35) := ⟨⟨by decide +kernel, by decide +kernel⟩, List.mem_of_getElem? (i := 752) (by decide +kernel), List.mem_of_getElem? (i := 994) (by decide +kernel), List.mem_of_getElem? (i := 995) (by decide +kernel)⟩
theorem lw_p58 : lw_okq (⟨"KindJudgeModel", "isMade", "(IJ)Z"⟩, 35) := ⟨⟨by decide +kernel, by decide +kernel⟩, List.mem_of_getElem? (i := 752) (by decide +kernel), List.mem_of_getElem? (i := 998) (by decide +kernel), List.mem_of_getElem? (i := 999) (by decide +kernel)⟩
theorem lw_p59 : lw_okq (⟨"KindJudgeModel", "doesMore", "(IIIJ)Z"⟩, 35) := ⟨⟨by decide +kernel, by decide +kernel⟩, List.mem_of_getElem? (i := 752) (by decide +kernel), List.mem_of_getElem? (i := 1002) (by decide +kernel), List.mem_of_getElem? (i := 1003) (by decide +kernel)⟩
theorem lw_p60 : lw_okq (⟨"KindJudgeModel", "wrongJoined", "(I)I"⟩, 35) := ⟨⟨by decide +kernel, by decide +kernel⟩, List.mem_of_getElem? (i := 752) (by decide +kernel), List.mem_of_getElem? (i := 1018) (by decide +kernel), List.mem_of_getElem? (i := 1019) (by decide +kernel)⟩
theorem lw_p61 : lw_okq (⟨"KindJudgeModel", "goesOn", "(II)Z"⟩, 35) := ⟨⟨by decide +kernel, by decide +kernel⟩, List.mem_of_getElem? (i := 752) (by decide +kernel), List.mem_of_getElem? (i := 1022) (by decide +kernel), List.mem_of_getElem? (i := 1023) (by decide +kernel)⟩
theorem lw_p62 : lw_okq (⟨"KindJudgeModel", "takes", "(I)V"⟩, 35) := ⟨⟨by decide +kernel, by decide +kernel⟩, List.mem_of_getElem? (i := 752) (by decide +kernel), List.mem_of_getElem? (i := 1026) (by decide +kernel), List.mem_of_getElem? (i := 1027) (by decide +kernel)⟩
theorem lw_p63 : lw_okq (⟨"KindJudgeModel", "comesTo", "(II)Z"⟩, 35) := ⟨⟨by decide +kernel, by decide +kernel⟩, List.mem_of_getElem? (i := 752) (by decide +kernel), List.mem_of_getElem? (i := 1030) (by decide +kernel), List.mem_of_getElem? (i := 1031) (by decide +kernel)⟩
def lw_privs_4 : List (MethodName × Nat) := [(⟨"KindJudgeModel", "sees", "(I)V"⟩, 35), (⟨"KindJudgeModel", "handlersFit", "(II)Z"⟩, 35), (⟨"KindJudgeModel", "does", "(II)Z"⟩, 35), (⟨"KindJudgeModel", "push", "(I)Z"⟩, 35), (⟨"KindJudgeModel", "pushLong", "()Z"⟩, 35), (⟨"KindJudgeModel", "isOneOnTop", "(I)Z"⟩, 35), (⟨"KindJudgeModel", "local", "(II)V"⟩, 35), (⟨"KindJudgeModel", "popLong", "()Z"⟩, 35), (⟨"KindJudgeModel", "pop", "(I)Z"⟩, 35), (⟨"KindJudgeModel", "isNew", "(IJ)Z"⟩, 35), (⟨"KindJudgeModel", "isMade", "(IJ)Z"⟩, 35), (⟨"KindJudgeModel", "doesMore", "(IIIJ)Z"⟩, 35), (⟨"KindJudgeModel", "wrongJoined", "(I)I"⟩, 35), (⟨"KindJudgeModel", "goesOn", "(II)Z"⟩, 35), (⟨"KindJudgeModel", "takes", "(I)V"⟩, 35), (⟨"KindJudgeModel", "comesTo", "(II)Z"⟩, 35)]
theorem lw_r4 : ∀ q ∈ lw_privs_4, lw_okq q := List.forall_mem_cons.mpr ⟨lw_p48, List.forall_mem_cons.mpr ⟨lw_p49, List.forall_mem_cons.mpr ⟨lw_p50, List.forall_mem_cons.mpr ⟨lw_p51, List.forall_mem_cons.mpr ⟨lw_p52, List.forall_mem_cons.mpr ⟨lw_p53, List.forall_mem_cons.mpr ⟨lw_p54, List.forall_mem_cons.mpr ⟨lw_p55, List.forall_mem_cons.mpr ⟨lw_p56, List.forall_mem_cons.mpr ⟨lw_p57, List.forall_mem_cons.mpr ⟨lw_p58, List.forall_mem_cons.mpr ⟨lw_p59, List.forall_mem_cons.mpr ⟨lw_p60, List.forall_mem_cons.mpr ⟨lw_p61, List.forall_mem_cons.mpr ⟨lw_p62, List.forall_mem_cons.mpr ⟨lw_p63, fun _ h => absurd h List.not_mem_nil⟩⟩⟩⟩⟩⟩⟩⟩⟩⟩⟩⟩⟩⟩⟩⟩
theorem lw_p64 : lw_okq (⟨"KindJudgeModel", "ahead", "(I)V"⟩, 35) := ⟨⟨by decide +kernel, by decide +kernel⟩, List.mem_of_getElem? (i := 752) (by decide +kernel), List.mem_of_getElem? (i := 1034) (by decide +kernel), List.mem_of_getElem? (i := 1035) (by decide +kernel)⟩
theorem lw_p65 : lw_okq (⟨"KindJudgeModel", "areRight", "(I)Z"⟩, 35) := ⟨⟨by decide +kernel, by decide +kernel⟩, List.mem_of_getElem? (i := 752) (by decide +kernel), List.mem_of_getElem? (i := 1051) (by decide +kernel), List.mem_of_getElem? (i := 1052) (by decide +kernel)⟩
theorem lw_p66 : lw_okq (⟨"KindJudgeModel", "works", "()I"⟩, 35) := ⟨⟨by decide +kernel, by decide +kernel⟩, List.mem_of_getElem? (i := 752) (by decide +kernel), List.mem_of_getElem? (i := 1055) (by decide +kernel), List.mem_of_getElem? (i := 1056) (by decide +kernel)⟩
theorem lw_p67 : lw_okq (⟨"KindJudgeModel", "simple", "(IJ)I"⟩, 35) := ⟨⟨by decide +kernel, by decide +kernel⟩, List.mem_of_getElem? (i := 752) (by decide +kernel), List.mem_of_getElem? (i := 1059) (by decide +kernel), List.mem_of_getElem? (i := 1060) (by decide +kernel)⟩
theorem lw_p68 : lw_okq (⟨"KindJudgeModel", "put", "(J)V"⟩, 35) := ⟨⟨by decide +kernel, by decide +kernel⟩, List.mem_of_getElem? (i := 752) (by decide +kernel), List.mem_of_getElem? (i := 1063) (by decide +kernel), List.mem_of_getElem? (i := 1064) (by decide +kernel)⟩
theorem lw_p69 : lw_okq (⟨"KindJudgeModel", "putLong", "(J)V"⟩, 35) := ⟨⟨by decide +kernel, by decide +kernel⟩, List.mem_of_getElem? (i := 752) (by decide +kernel), List.mem_of_getElem? (i := 1067) (by decide +kernel), List.mem_of_getElem? (i := 1068) (by decide +kernel)⟩
theorem lw_p70 : lw_okq (⟨"KindJudgeModel", "take", "()J"⟩, 35) := ⟨⟨by decide +kernel, by decide +kernel⟩, List.mem_of_getElem? (i := 752) (by decide +kernel), List.mem_of_getElem? (i := 1071) (by decide +kernel), List.mem_of_getElem? (i := 1072) (by decide +kernel)⟩
theorem lw_p71 : lw_okq (⟨"KindJudgeModel", "takeLong", "()J"⟩, 35) := ⟨⟨by decide +kernel, by decide +kernel⟩, List.mem_of_getElem? (i := 752) (by decide +kernel), List.mem_of_getElem? (i := 1075) (by decide +kernel), List.mem_of_getElem? (i := 1076) (by decide +kernel)⟩
theorem lw_p72 : lw_okq (⟨"KindJudgeModel", "make", "(II)I"⟩, 35) := ⟨⟨by decide +kernel, by decide +kernel⟩, List.mem_of_getElem? (i := 752) (by decide +kernel), List.mem_of_getElem? (i := 1087) (by decide +kernel), List.mem_of_getElem? (i := 1088) (by decide +kernel)⟩
theorem lw_p73 : lw_okq (⟨"KindJudgeModel", "ofThings", "(IJ)I"⟩, 35) := ⟨⟨by decide +kernel, by decide +kernel⟩, List.mem_of_getElem? (i := 752) (by decide +kernel), List.mem_of_getElem? (i := 1091) (by decide +kernel), List.mem_of_getElem? (i := 1092) (by decide +kernel)⟩
theorem lw_p74 : lw_okq (⟨"KindJudgeModel", "isOf", "(II)Z"⟩, 35) := ⟨⟨by decide +kernel, by decide +kernel⟩, List.mem_of_getElem? (i := 752) (by decide +kernel), List.mem_of_getElem? (i := 1095) (by decide +kernel), List.mem_of_getElem? (i := 1096) (by decide +kernel)⟩
theorem lw_p75 : lw_okq (⟨"KindJudgeModel", "worth", "(I)I"⟩, 35) := ⟨⟨by decide +kernel, by decide +kernel⟩, List.mem_of_getElem? (i := 752) (by decide +kernel), List.mem_of_getElem? (i := 1099) (by decide +kernel), List.mem_of_getElem? (i := 1100) (by decide +kernel)⟩
theorem lw_p76 : lw_okq (⟨"KindJudgeModel", "others", "(IJ)I"⟩, 35) := ⟨⟨by decide +kernel, by decide +kernel⟩, List.mem_of_getElem? (i := 752) (by decide +kernel), List.mem_of_getElem? (i := 1103) (by decide +kernel), List.mem_of_getElem? (i := 1104) (by decide +kernel)⟩
theorem lw_p77 : lw_okq (⟨"KindJudgeModel", "calls", "(I)V"⟩, 35) := ⟨⟨by decide +kernel, by decide +kernel⟩, List.mem_of_getElem? (i := 752) (by decide +kernel), List.mem_of_getElem? (i := 1107) (by decide +kernel), List.mem_of_getElem? (i := 1108) (by decide +kernel)⟩
theorem lw_p78 : lw_okq (⟨"KindJudgeModel", "after", "(I)I"⟩, 35) := ⟨⟨by decide +kernel, by decide +kernel⟩, List.mem_of_getElem? (i := 752) (by decide +kernel), List.mem_of_getElem? (i := 1111) (by decide +kernel), List.mem_of_getElem? (i := 1112) (by decide +kernel)⟩
def lw_privs_5 : List (MethodName × Nat) := [(⟨"KindJudgeModel", "ahead", "(I)V"⟩, 35), (⟨"KindJudgeModel", "areRight", "(I)Z"⟩, 35), (⟨"KindJudgeModel", "works", "()I"⟩, 35), (⟨"KindJudgeModel", "simple", "(IJ)I"⟩, 35), (⟨"KindJudgeModel", "put", "(J)V"⟩, 35), (⟨"KindJudgeModel", "putLong", "(J)V"⟩, 35), (⟨"KindJudgeModel", "take", "()J"⟩, 35), (⟨"KindJudgeModel", "takeLong", "()J"⟩, 35), (⟨"KindJudgeModel", "make", "(II)I"⟩, 35), (⟨"KindJudgeModel", "ofThings", "(IJ)I"⟩, 35), (⟨"KindJudgeModel", "isOf", "(II)Z"⟩, 35), (⟨"KindJudgeModel", "worth", "(I)I"⟩, 35), (⟨"KindJudgeModel", "others", "(IJ)I"⟩, 35), (⟨"KindJudgeModel", "calls", "(I)V"⟩, 35), (⟨"KindJudgeModel", "after", "(I)I"⟩, 35)]
theorem lw_r5 : ∀ q ∈ lw_privs_5, lw_okq q := List.forall_mem_cons.mpr ⟨lw_p64, List.forall_mem_cons.mpr ⟨lw_p65, List.forall_mem_cons.mpr ⟨lw_p66, List.forall_mem_cons.mpr ⟨lw_p67, List.forall_mem_cons.mpr ⟨lw_p68, List.forall_mem_cons.mpr ⟨lw_p69, List.forall_mem_cons.mpr ⟨lw_p70, List.forall_mem_cons.mpr ⟨lw_p71, List.forall_mem_cons.mpr ⟨lw_p72, List.forall_mem_cons.mpr ⟨lw_p73, List.forall_mem_cons.mpr ⟨lw_p74, List.forall_mem_cons.mpr ⟨lw_p75, List.forall_mem_cons.mpr ⟨lw_p76, List.forall_mem_cons.mpr ⟨lw_p77, List.forall_mem_cons.mpr ⟨lw_p78, fun _ h => absurd h List.not_mem_nil⟩⟩⟩⟩⟩⟩⟩⟩⟩⟩⟩⟩⟩⟩⟩
def lw_privs : List (MethodName × Nat) := lw_privs_1 ++ (lw_privs_2 ++ (lw_privs_3 ++ (lw_privs_4 ++ (lw_privs_5))))
def lw_tbl : List Cond := k2_sels lw_privs ++ tables_1
theorem lw_privs_ok : ∀ q ∈ lw_privs, lw_okq q := by
  show ∀ q ∈ lw_privs_1 ++ (lw_privs_2 ++ (lw_privs_3 ++ (lw_privs_4 ++ (lw_privs_5)))), lw_okq q
  exact List.forall_mem_append.mpr ⟨lw_r1, List.forall_mem_append.mpr ⟨lw_r2, List.forall_mem_append.mpr ⟨lw_r3, List.forall_mem_append.mpr ⟨lw_r4, lw_r5⟩⟩⟩⟩
-- ===== end of PART A; then your names; then what follows =====
end
section
def RX0 : String := "KindJudge$Code"
def TX0 : u_T := fun k => match k with
  | 0 => ("KindJudge$Code", "number", "I", true)
  | 1 => ("KindJudge$Code", "params", "I", true)
  | 2 => ("KindJudge$Code", "ops", "[I", true)
  | 3 => ("KindJudge$Code", "args", "[J", true)
  | 4 => ("KindJudge$Code", "size", "I", false)
  | 5 => ("KindJudge$Code", "froms", "[I", true)
  | 6 => ("KindJudge$Code", "tos", "[I", true)
  | 7 => ("KindJudge$Code", "ats", "[I", true)
  | 8 => ("KindJudge$Code", "whats", "[I", true)
  | 9 => ("KindJudge$Code", "handlers", "I", false)
  | 10 => ("KindJudge$Code", "frames", "[LKindJudge$Places;", true)
  | _ => ("KindJudge$Code", "right", "Z", false)
def tyX0 : Nat → FieldType := fun k => match k with
  | 0 => .int
  | 1 => .int
  | 2 => .array .int
  | 3 => .array .long
  | 4 => .int
  | 5 => .array .int
  | 6 => .array .int
  | 7 => .array .int
  | 8 => .array .int
  | 9 => .int
  | 10 => .array (.object "KindJudge$Places")
  | _ => .boolean
abbrev wsX00 : List Cond := u_ws RX0 TX0 12
theorem nmX0 : ∀ a, a < 12 → ∀ b, b < 12 → a ≠ b → (TX0 a).2.1 ≠ (TX0 b).2.1 := by decide +kernel
theorem tyX0_ok : ∀ k, k < 12 → parseFieldDescriptor (TX0 k).2.2.1 = some (tyX0 k) := by decide +kernel
abbrev cX0_init : ByteArray := prog_2_method_1_code
def yX0_init : MethodName := ⟨RX0, "<init>", "(II)V"⟩
abbrev cX0_addInstruction : ByteArray := prog_2_method_2_code
def yX0_addInstruction : MethodName := ⟨RX0, "addInstruction", "(IJ)I"⟩
abbrev cX0_addHandler : ByteArray := prog_2_method_3_code
def yX0_addHandler : MethodName := ⟨RX0, "addHandler", "(IIII)I"⟩
abbrev cX0_putFrame : ByteArray := prog_2_method_4_code
def yX0_putFrame : MethodName := ⟨RX0, "putFrame", "(II)V"⟩
abbrev cX0_frameOf : ByteArray := prog_2_method_5_code
def yX0_frameOf : MethodName := ⟨RX0, "frameOf", "(I)LKindJudge$Places;"⟩
abbrev cX0_hasInstruction : ByteArray := prog_2_method_6_code
def yX0_hasInstruction : MethodName := ⟨RX0, "hasInstruction", "(J)Z"⟩
abbrev cX0_covers : ByteArray := prog_2_method_7_code
def yX0_covers : MethodName := ⟨RX0, "covers", "(II)Z"⟩
abbrev cX0_handlerFor : ByteArray := prog_2_method_8_code
def yX0_handlerFor : MethodName := ⟨RX0, "handlerFor", "(II)I"⟩
abbrev cX0_called : ByteArray := prog_2_method_9_code
def yX0_called : MethodName := ⟨RX0, "called", "()I"⟩
def RX1 : String := "KindJudge$Heap"
def TX1 : u_T := fun k => match k with
  | 0 => ("KindJudge$Heap", "kinds", "[I", true)
  | 1 => ("KindJudge$Heap", "lengths", "[I", true)
  | 2 => ("KindJudge$Heap", "fields", "[I", true)
  | 3 => ("KindJudge$Heap", "items", "[I", true)
  | _ => ("KindJudge$Heap", "made", "I", false)
def tyX1 : Nat → FieldType := fun k => match k with
  | 0 => .array .int
  | 1 => .array .int
  | 2 => .array .int
  | 3 => .array .int
  | _ => .int
abbrev wsX10 : List Cond := u_ws RX1 TX1 5
theorem nmX1 : ∀ a, a < 5 → ∀ b, b < 5 → a ≠ b → (TX1 a).2.1 ≠ (TX1 b).2.1 := by decide +kernel
theorem tyX1_ok : ∀ k, k < 5 → parseFieldDescriptor (TX1 k).2.2.1 = some (tyX1 k) := by decide +kernel
abbrev cX1_init : ByteArray := prog_3_method_1_code
def yX1_init : MethodName := ⟨RX1, "<init>", "()V"⟩
abbrev cX1_isNull : ByteArray := prog_3_method_2_code
def yX1_isNull : MethodName := ⟨RX1, "isNull", "(I)Z"⟩
abbrev cX1_make : ByteArray := prog_3_method_3_code
def yX1_make : MethodName := ⟨RX1, "make", "(II)I"⟩
abbrev cX1_length : ByteArray := prog_3_method_4_code
def yX1_length : MethodName := ⟨RX1, "length", "(I)I"⟩
abbrev cX1_hasItem : ByteArray := prog_3_method_5_code
def yX1_hasItem : MethodName := ⟨RX1, "hasItem", "(II)Z"⟩
abbrev cX1_item : ByteArray := prog_3_method_6_code
def yX1_item : MethodName := ⟨RX1, "item", "(II)I"⟩
abbrev cX1_putItem : ByteArray := prog_3_method_7_code
def yX1_putItem : MethodName := ⟨RX1, "putItem", "(III)V"⟩
abbrev cX1_field : ByteArray := prog_3_method_8_code
def yX1_field : MethodName := ⟨RX1, "field", "(I)I"⟩
abbrev cX1_putField : ByteArray := prog_3_method_9_code
def yX1_putField : MethodName := ⟨RX1, "putField", "(II)V"⟩
abbrev cX1_isOf : ByteArray := prog_3_method_10_code
def yX1_isOf : MethodName := ⟨RX1, "isOf", "(II)Z"⟩
abbrev cX1_canHold : ByteArray := prog_3_method_11_code
def yX1_canHold : MethodName := ⟨RX1, "canHold", "(II)Z"⟩
abbrev cX1_worth : ByteArray := prog_3_method_12_code
def yX1_worth : MethodName := ⟨RX1, "worth", "(I)I"⟩
def RX2 : String := "KindJudge$Judging"
def TX2 : u_T := fun k => match k with
  | 0 => ("KindJudge$Judging", "ahead", "[LKindJudge$Places;", true)
  | 1 => ("KindJudge$Judging", "caught", "LKindJudge$Places;", true)
  | 2 => ("KindJudge$Judging", "step", "LKindJudge$Step;", true)
  | 3 => ("KindJudge$Judging", "judgedSize", "I", false)
  | 4 => ("KindJudge$Judging", "changed", "Z", false)
  | _ => ("KindJudge$Judging", "roundsGone", "I", false)
def tyX2 : Nat → FieldType := fun k => match k with
  | 0 => .array (.object "KindJudge$Places")
  | 1 => .object "KindJudge$Places"
  | 2 => .object "KindJudge$Step"
  | 3 => .int
  | 4 => .boolean
  | _ => .int
abbrev wsX20 : List Cond := u_ws RX2 TX2 6
theorem nmX2 : ∀ a, a < 6 → ∀ b, b < 6 → a ≠ b → (TX2 a).2.1 ≠ (TX2 b).2.1 := by decide +kernel
theorem tyX2_ok : ∀ k, k < 6 → parseFieldDescriptor (TX2 k).2.2.1 = some (tyX2 k) := by decide +kernel
abbrev cX2_init : ByteArray := prog_4_method_1_code
def yX2_init : MethodName := ⟨RX2, "<init>", "()V"⟩
abbrev cX2_kindAhead : ByteArray := prog_4_method_2_code
def yX2_kindAhead : MethodName := ⟨RX2, "kindAhead", "(II)I"⟩
abbrev cX2_forget : ByteArray := prog_4_method_3_code
def yX2_forget : MethodName := ⟨RX2, "forget", "(LKindJudge$Code;)V"⟩
abbrev cX2_byFrames : ByteArray := prog_4_method_4_code
def yX2_byFrames : MethodName := ⟨RX2, "byFrames", "(LKindJudge$Program;LKindJudge$Code;)I"⟩
abbrev cX2_leadsToFrame : ByteArray := prog_4_method_5_code
def yX2_leadsToFrame : MethodName := ⟨RX2, "leadsToFrame", "(LKindJudge$Code;)Z"⟩
abbrev cX2_handlersFit : ByteArray := prog_4_method_6_code
def yX2_handlersFit : MethodName := ⟨RX2, "handlersFit", "(LKindJudge$Code;I)Z"⟩
abbrev cX2_byJoining : ByteArray := prog_4_method_7_code
def yX2_byJoining : MethodName := ⟨RX2, "byJoining", "(LKindJudge$Program;LKindJudge$Code;)I"⟩
abbrev cX2_handsOn : ByteArray := prog_4_method_8_code
def yX2_handsOn : MethodName := ⟨RX2, "handsOn", "(LKindJudge$Program;LKindJudge$Code;I)Z"⟩
abbrev cX2_arrives : ByteArray := prog_4_method_9_code
def yX2_arrives : MethodName := ⟨RX2, "arrives", "(LKindJudge$Code;ILKindJudge$Places;)Z"⟩
def RX3 : String := "KindJudge$Kinds"
def TX3 : u_T := fun k => match k with
  | _ => ("", "", "", false)
def tyX3 : Nat → FieldType := fun k => match k with
  | _ => .int
abbrev wsX30 : List Cond := u_ws RX3 TX3 0
theorem nmX3 : ∀ a, a < 0 → ∀ b, b < 0 → a ≠ b → (TX3 a).2.1 ≠ (TX3 b).2.1 := by decide +kernel
theorem tyX3_ok : ∀ k, k < 0 → parseFieldDescriptor (TX3 k).2.2.1 = some (tyX3 k) := by decide +kernel
abbrev cX3_isClass : ByteArray := prog_5_method_2_code
def yX3_isClass : MethodName := ⟨RX3, "isClass", "(J)Z"⟩
abbrev cX3_isClassOrFace : ByteArray := prog_5_method_3_code
def yX3_isClassOrFace : MethodName := ⟨RX3, "isClassOrFace", "(J)Z"⟩
abbrev cX3_isObject : ByteArray := prog_5_method_4_code
def yX3_isObject : MethodName := ⟨RX3, "isObject", "(I)Z"⟩
abbrev cX3_isRow : ByteArray := prog_5_method_5_code
def yX3_isRow : MethodName := ⟨RX3, "isRow", "(I)Z"⟩
abbrev cX3_isUnmade : ByteArray := prog_5_method_6_code
def yX3_isUnmade : MethodName := ⟨RX3, "isUnmade", "(I)Z"⟩
abbrev cX3_isKind : ByteArray := prog_5_method_7_code
def yX3_isKind : MethodName := ⟨RX3, "isKind", "(I)Z"⟩
abbrev cX3_isReference : ByteArray := prog_5_method_8_code
def yX3_isReference : MethodName := ⟨RX3, "isReference", "(I)Z"⟩
abbrev cX3_isOnePlace : ByteArray := prog_5_method_9_code
def yX3_isOnePlace : MethodName := ⟨RX3, "isOnePlace", "(I)Z"⟩
abbrev cX3_isUnder : ByteArray := prog_5_method_10_code
def yX3_isUnder : MethodName := ⟨RX3, "isUnder", "(II)Z"⟩
abbrev cX3_goesTo : ByteArray := prog_5_method_11_code
def yX3_goesTo : MethodName := ⟨RX3, "goesTo", "(II)Z"⟩
abbrev cX3_joinOf : ByteArray := prog_5_method_12_code
def yX3_joinOf : MethodName := ⟨RX3, "joinOf", "(II)I"⟩
abbrev cX3_sharedClass : ByteArray := prog_5_method_13_code
def yX3_sharedClass : MethodName := ⟨RX3, "sharedClass", "(II)I"⟩
def RX4 : String := "KindJudge$Machine"
def TX4 : u_T := fun k => match k with
  | 0 => ("KindJudge$Machine", "heap", "LKindJudge$Heap;", true)
  | 1 => ("KindJudge$Machine", "codes", "[LKindJudge$Code;", true)
  | 2 => ("KindJudge$Machine", "ats", "[I", true)
  | 3 => ("KindJudge$Machine", "depths", "[I", true)
  | 4 => ("KindJudge$Machine", "locals", "[J", true)
  | 5 => ("KindJudge$Machine", "stack", "[J", true)
  | 6 => ("KindJudge$Machine", "level", "I", false)
  | 7 => ("KindJudge$Machine", "outcome", "I", false)
  | 8 => ("KindJudge$Machine", "ownFailure", "I", false)
  | 9 => ("KindJudge$Machine", "result", "I", false)
  | 10 => ("KindJudge$Machine", "done", "I", false)
  | 11 => ("KindJudge$Machine", "failures", "I", false)
  | 12 => ("KindJudge$Machine", "failMethod", "I", false)
  | _ => ("KindJudge$Machine", "failAt", "I", false)
def tyX4 : Nat → FieldType := fun k => match k with
  | 0 => .object "KindJudge$Heap"
  | 1 => .array (.object "KindJudge$Code")
  | 2 => .array .int
  | 3 => .array .int
  | 4 => .array .long
  | 5 => .array .long
  | 6 => .int
  | 7 => .int
  | 8 => .int
  | 9 => .int
  | 10 => .int
  | 11 => .int
  | 12 => .int
  | _ => .int
abbrev wsX40 : List Cond := u_ws RX4 TX4 14
theorem nmX4 : ∀ a, a < 14 → ∀ b, b < 14 → a ≠ b → (TX4 a).2.1 ≠ (TX4 b).2.1 := by decide +kernel
theorem tyX4_ok : ∀ k, k < 14 → parseFieldDescriptor (TX4 k).2.2.1 = some (tyX4 k) := by decide +kernel
abbrev cX4_init : ByteArray := prog_6_method_1_code
def yX4_init : MethodName := ⟨RX4, "<init>", "()V"⟩
abbrev cX4_prepare : ByteArray := prog_6_method_2_code
def yX4_prepare : MethodName := ⟨RX4, "prepare", "(LKindJudge$Code;)V"⟩
abbrev cX4_giveParams : ByteArray := prog_6_method_3_code
def yX4_giveParams : MethodName := ⟨RX4, "giveParams", "(IIII)V"⟩
abbrev cX4_goOn : ByteArray := prog_6_method_4_code
def yX4_goOn : MethodName := ⟨RX4, "goOn", "(LKindJudge$Program;)I"⟩
abbrev cX4_enter : ByteArray := prog_6_method_5_code
def yX4_enter : MethodName := ⟨RX4, "enter", "(LKindJudge$Code;)V"⟩
abbrev cX4_doNext : ByteArray := prog_6_method_6_code
def yX4_doNext : MethodName := ⟨RX4, "doNext", "(LKindJudge$Program;)V"⟩
abbrev cX4_arises : ByteArray := prog_6_method_7_code
def yX4_arises : MethodName := ⟨RX4, "arises", "(I)V"⟩
abbrev cX4_catches : ByteArray := prog_6_method_8_code
def yX4_catches : MethodName := ⟨RX4, "catches", "(LKindJudge$Code;II)Z"⟩
abbrev cX4_end : ByteArray := prog_6_method_9_code
def yX4_end : MethodName := ⟨RX4, "end", "(II)V"⟩
abbrev cX4_push : ByteArray := prog_6_method_10_code
def yX4_push : MethodName := ⟨RX4, "push", "(J)V"⟩
abbrev cX4_pop : ByteArray := prog_6_method_11_code
def yX4_pop : MethodName := ⟨RX4, "pop", "()J"⟩
abbrev cX4_popInt : ByteArray := prog_6_method_12_code
def yX4_popInt : MethodName := ⟨RX4, "popInt", "()I"⟩
abbrev cX4_pushLong : ByteArray := prog_6_method_13_code
def yX4_pushLong : MethodName := ⟨RX4, "pushLong", "(J)V"⟩
abbrev cX4_popLong : ByteArray := prog_6_method_14_code
def yX4_popLong : MethodName := ⟨RX4, "popLong", "()J"⟩
abbrev cX4_does : ByteArray := prog_6_method_15_code
def yX4_does : MethodName := ⟨RX4, "does", "(LKindJudge$Program;IJ)I"⟩
abbrev cX4_moves : ByteArray := prog_6_method_16_code
def yX4_moves : MethodName := ⟨RX4, "moves", "(IJ)I"⟩
abbrev cX4_reckons : ByteArray := prog_6_method_17_code
def yX4_reckons : MethodName := ⟨RX4, "reckons", "(IJ)I"⟩
abbrev cX4_relatesInts : ByteArray := prog_6_method_18_code
def yX4_relatesInts : MethodName := ⟨RX4, "relatesInts", "(I)I"⟩
abbrev cX4_relatesLongs : ByteArray := prog_6_method_19_code
def yX4_relatesLongs : MethodName := ⟨RX4, "relatesLongs", "(I)I"⟩
abbrev cX4_related : ByteArray := prog_6_method_20_code
def yX4_related : MethodName := ⟨RX4, "related", "(IJJ)J"⟩
abbrev cX4_makes : ByteArray := prog_6_method_21_code
def yX4_makes : MethodName := ⟨RX4, "makes", "(IJ)I"⟩
abbrev cX4_pushNew : ByteArray := prog_6_method_22_code
def yX4_pushNew : MethodName := ⟨RX4, "pushNew", "(II)I"⟩
abbrev cX4_usesArray : ByteArray := prog_6_method_23_code
def yX4_usesArray : MethodName := ⟨RX4, "usesArray", "(I)I"⟩
abbrev cX4_asks : ByteArray := prog_6_method_24_code
def yX4_asks : MethodName := ⟨RX4, "asks", "(II)I"⟩
abbrev cX4_usesObject : ByteArray := prog_6_method_25_code
def yX4_usesObject : MethodName := ⟨RX4, "usesObject", "(I)I"⟩
abbrev cX4_turns : ByteArray := prog_6_method_26_code
def yX4_turns : MethodName := ⟨RX4, "turns", "(I)I"⟩
abbrev cX4_leads : ByteArray := prog_6_method_27_code
def yX4_leads : MethodName := ⟨RX4, "leads", "(LKindJudge$Program;IJ)I"⟩
abbrev cX4_jumpsIf : ByteArray := prog_6_method_28_code
def yX4_jumpsIf : MethodName := ⟨RX4, "jumpsIf", "(ZJ)I"⟩
abbrev cX4_returns : ByteArray := prog_6_method_29_code
def yX4_returns : MethodName := ⟨RX4, "returns", "(I)I"⟩
abbrev cX4_calls : ByteArray := prog_6_method_30_code
def yX4_calls : MethodName := ⟨RX4, "calls", "(LKindJudge$Code;)I"⟩
def RX5 : String := "KindJudge$Op"
def TX5 : u_T := fun k => match k with
  | _ => ("", "", "", false)
def tyX5 : Nat → FieldType := fun k => match k with
  | _ => .int
abbrev wsX50 : List Cond := u_ws RX5 TX5 0
theorem nmX5 : ∀ a, a < 0 → ∀ b, b < 0 → a ≠ b → (TX5 a).2.1 ≠ (TX5 b).2.1 := by decide +kernel
theorem tyX5_ok : ∀ k, k < 0 → parseFieldDescriptor (TX5 k).2.2.1 = some (tyX5 k) := by decide +kernel
def RX6 : String := "KindJudge$Places"
def TX6 : u_T := fun k => match k with
  | 0 => ("KindJudge$Places", "kinds", "[I", true)
  | _ => ("KindJudge$Places", "depth", "I", false)
def tyX6 : Nat → FieldType := fun k => match k with
  | 0 => .array .int
  | _ => .int
abbrev wsX60 : List Cond := u_ws RX6 TX6 2
theorem nmX6 : ∀ a, a < 2 → ∀ b, b < 2 → a ≠ b → (TX6 a).2.1 ≠ (TX6 b).2.1 := by decide +kernel
theorem tyX6_ok : ∀ k, k < 2 → parseFieldDescriptor (TX6 k).2.2.1 = some (tyX6 k) := by decide +kernel
abbrev cX6_init : ByteArray := prog_8_method_1_code
def yX6_init : MethodName := ⟨RX6, "<init>", "()V"⟩
abbrev cX6_clear : ByteArray := prog_8_method_2_code
def yX6_clear : MethodName := ⟨RX6, "clear", "(I)V"⟩
abbrev cX6_begin : ByteArray := prog_8_method_3_code
def yX6_begin : MethodName := ⟨RX6, "begin", "(I)V"⟩
abbrev cX6_copyFrom : ByteArray := prog_8_method_4_code
def yX6_copyFrom : MethodName := ⟨RX6, "copyFrom", "(LKindJudge$Places;)V"⟩
abbrev cX6_has : ByteArray := prog_8_method_5_code
def yX6_has : MethodName := ⟨RX6, "has", "(I)Z"⟩
abbrev cX6_exchange : ByteArray := prog_8_method_6_code
def yX6_exchange : MethodName := ⟨RX6, "exchange", "(II)I"⟩
abbrev cX6_becomeCaught : ByteArray := prog_8_method_7_code
def yX6_becomeCaught : MethodName := ⟨RX6, "becomeCaught", "(LKindJudge$Places;)V"⟩
abbrev cX6_goesTo : ByteArray := prog_8_method_8_code
def yX6_goesTo : MethodName := ⟨RX6, "goesTo", "(LKindJudge$Places;)Z"⟩
abbrev cX6_takeIn : ByteArray := prog_8_method_9_code
def yX6_takeIn : MethodName := ⟨RX6, "takeIn", "(LKindJudge$Places;)Z"⟩
abbrev cX6_push : ByteArray := prog_8_method_10_code
def yX6_push : MethodName := ⟨RX6, "push", "(I)Z"⟩
abbrev cX6_pushLong : ByteArray := prog_8_method_11_code
def yX6_pushLong : MethodName := ⟨RX6, "pushLong", "()Z"⟩
abbrev cX6_top : ByteArray := prog_8_method_12_code
def yX6_top : MethodName := ⟨RX6, "top", "()I"⟩
abbrev cX6_pop : ByteArray := prog_8_method_13_code
def yX6_pop : MethodName := ⟨RX6, "pop", "(I)Z"⟩
abbrev cX6_popLong : ByteArray := prog_8_method_14_code
def yX6_popLong : MethodName := ⟨RX6, "popLong", "()Z"⟩
abbrev cX6_popOne : ByteArray := prog_8_method_15_code
def yX6_popOne : MethodName := ⟨RX6, "popOne", "()I"⟩
abbrev cX6_popRow : ByteArray := prog_8_method_16_code
def yX6_popRow : MethodName := ⟨RX6, "popRow", "()I"⟩
abbrev cX6_write : ByteArray := prog_8_method_17_code
def yX6_write : MethodName := ⟨RX6, "write", "(II)V"⟩
abbrev cX6_writeLong : ByteArray := prog_8_method_18_code
def yX6_writeLong : MethodName := ⟨RX6, "writeLong", "(I)V"⟩
abbrev cX6_stackHolds : ByteArray := prog_8_method_19_code
def yX6_stackHolds : MethodName := ⟨RX6, "stackHolds", "(I)Z"⟩
abbrev cX6_replace : ByteArray := prog_8_method_20_code
def yX6_replace : MethodName := ⟨RX6, "replace", "(II)V"⟩
def RX7 : String := "KindJudge$Program"
def TX7 : u_T := fun k => match k with
  | 0 => ("KindJudge$Program", "codes", "[LKindJudge$Code;", true)
  | _ => ("KindJudge$Program", "size", "I", false)
def tyX7 : Nat → FieldType := fun k => match k with
  | 0 => .array (.object "KindJudge$Code")
  | _ => .int
abbrev wsX70 : List Cond := u_ws RX7 TX7 2
theorem nmX7 : ∀ a, a < 2 → ∀ b, b < 2 → a ≠ b → (TX7 a).2.1 ≠ (TX7 b).2.1 := by decide +kernel
theorem tyX7_ok : ∀ k, k < 2 → parseFieldDescriptor (TX7 k).2.2.1 = some (tyX7 k) := by decide +kernel
abbrev cX7_init : ByteArray := prog_9_method_1_code
def yX7_init : MethodName := ⟨RX7, "<init>", "()V"⟩
abbrev cX7_add : ByteArray := prog_9_method_2_code
def yX7_add : MethodName := ⟨RX7, "add", "(I)I"⟩
abbrev cX7_at : ByteArray := prog_9_method_3_code
def yX7_at : MethodName := ⟨RX7, "at", "(J)LKindJudge$Code;"⟩
abbrev cX7_isReady : ByteArray := prog_9_method_4_code
def yX7_isReady : MethodName := ⟨RX7, "isReady", "(I)Z"⟩
def RX8 : String := "KindJudge$Step"
def TX8 : u_T := fun k => match k with
  | 0 => ("KindJudge$Step", "now", "LKindJudge$Places;", true)
  | 1 => ("KindJudge$Step", "leads", "I", false)
  | _ => ("KindJudge$Step", "falls", "Z", false)
def tyX8 : Nat → FieldType := fun k => match k with
  | 0 => .object "KindJudge$Places"
  | 1 => .int
  | _ => .boolean
abbrev wsX80 : List Cond := u_ws RX8 TX8 3
theorem nmX8 : ∀ a, a < 3 → ∀ b, b < 3 → a ≠ b → (TX8 a).2.1 ≠ (TX8 b).2.1 := by decide +kernel
theorem tyX8_ok : ∀ k, k < 3 → parseFieldDescriptor (TX8 k).2.2.1 = some (tyX8 k) := by decide +kernel
abbrev cX8_init : ByteArray := prog_10_method_1_code
def yX8_init : MethodName := ⟨RX8, "<init>", "()V"⟩
abbrev cX8_does : ByteArray := prog_10_method_2_code
def yX8_does : MethodName := ⟨RX8, "does", "(LKindJudge$Program;LKindJudge$Code;I)Z"⟩
abbrev cX8_moves : ByteArray := prog_10_method_3_code
def yX8_moves : MethodName := ⟨RX8, "moves", "(IJ)Z"⟩
abbrev cX8_stores : ByteArray := prog_10_method_4_code
def yX8_stores : MethodName := ⟨RX8, "stores", "(I)Z"⟩
abbrev cX8_storesLong : ByteArray := prog_10_method_5_code
def yX8_storesLong : MethodName := ⟨RX8, "storesLong", "(I)Z"⟩
abbrev cX8_holdsLong : ByteArray := prog_10_method_6_code
def yX8_holdsLong : MethodName := ⟨RX8, "holdsLong", "(I)Z"⟩
abbrev cX8_reckons : ByteArray := prog_10_method_7_code
def yX8_reckons : MethodName := ⟨RX8, "reckons", "(IJ)Z"⟩
abbrev cX8_begins : ByteArray := prog_10_method_8_code
def yX8_begins : MethodName := ⟨RX8, "begins", "(IJ)Z"⟩
abbrev cX8_finishes : ByteArray := prog_10_method_9_code
def yX8_finishes : MethodName := ⟨RX8, "finishes", "(LKindJudge$Code;J)Z"⟩
abbrev cX8_usesArray : ByteArray := prog_10_method_10_code
def yX8_usesArray : MethodName := ⟨RX8, "usesArray", "(IJ)Z"⟩
abbrev cX8_takes : ByteArray := prog_10_method_11_code
def yX8_takes : MethodName := ⟨RX8, "takes", "(I)Z"⟩
abbrev cX8_usesObject : ByteArray := prog_10_method_12_code
def yX8_usesObject : MethodName := ⟨RX8, "usesObject", "(IJ)Z"⟩
abbrev cX8_turns : ByteArray := prog_10_method_13_code
def yX8_turns : MethodName := ⟨RX8, "turns", "(I)Z"⟩
abbrev cX8_calls : ByteArray := prog_10_method_14_code
def yX8_calls : MethodName := ⟨RX8, "calls", "(LKindJudge$Program;LKindJudge$Code;J)Z"⟩
abbrev cX8_goesElsewhere : ByteArray := prog_10_method_15_code
def yX8_goesElsewhere : MethodName := ⟨RX8, "goesElsewhere", "(LKindJudge$Code;IJ)Z"⟩
def RX9 : String := "KindJudge"
def TX9 : u_T := fun k => match k with
  | 0 => ("KindJudge", "program", "LKindJudge$Program;", true)
  | 1 => ("KindJudge", "judging", "LKindJudge$Judging;", true)
  | _ => ("KindJudge", "machine", "LKindJudge$Machine;", true)
def tyX9 : Nat → FieldType := fun k => match k with
  | 0 => .object "KindJudge$Program"
  | 1 => .object "KindJudge$Judging"
  | _ => .object "KindJudge$Machine"
abbrev wsX90 : List Cond := u_ws RX9 TX9 3
theorem nmX9 : ∀ a, a < 3 → ∀ b, b < 3 → a ≠ b → (TX9 a).2.1 ≠ (TX9 b).2.1 := by decide +kernel
theorem tyX9_ok : ∀ k, k < 3 → parseFieldDescriptor (TX9 k).2.2.1 = some (tyX9 k) := by decide +kernel
abbrev cX9_init : ByteArray := prog_1_method_1_code
def yX9_init : MethodName := ⟨RX9, "<init>", "()V"⟩
abbrev cX9_method : ByteArray := prog_1_method_2_code
def yX9_method : MethodName := ⟨RX9, "method", "(I)I"⟩
abbrev cX9_op : ByteArray := prog_1_method_3_code
def yX9_op : MethodName := ⟨RX9, "op", "(IIJ)I"⟩
abbrev cX9_handler : ByteArray := prog_1_method_4_code
def yX9_handler : MethodName := ⟨RX9, "handler", "(IIIII)I"⟩
abbrev cX9_frame : ByteArray := prog_1_method_5_code
def yX9_frame : MethodName := ⟨RX9, "frame", "(III)I"⟩
abbrev cX9_set : ByteArray := prog_1_method_6_code
def yX9_set : MethodName := ⟨RX9, "set", "(IIII)I"⟩
abbrev cX9_judge : ByteArray := prog_1_method_7_code
def yX9_judge : MethodName := ⟨RX9, "judge", "(I)I"⟩
abbrev cX9_join : ByteArray := prog_1_method_8_code
def yX9_join : MethodName := ⟨RX9, "join", "(I)I"⟩
abbrev cX9_kind : ByteArray := prog_1_method_9_code
def yX9_kind : MethodName := ⟨RX9, "kind", "(II)I"⟩
abbrev cX9_rounds : ByteArray := prog_1_method_10_code
def yX9_rounds : MethodName := ⟨RX9, "rounds", "()I"⟩
abbrev cX9_kinds : ByteArray := prog_1_method_11_code
def yX9_kinds : MethodName := ⟨RX9, "kinds", "(IIZ)I"⟩
abbrev cX9_run : ByteArray := prog_1_method_12_code
def yX9_run : MethodName := ⟨RX9, "run", "(IIIII)I"⟩
abbrev cX9_answer : ByteArray := prog_1_method_13_code
def yX9_answer : MethodName := ⟨RX9, "answer", "()I"⟩
abbrev cX9_told : ByteArray := prog_1_method_14_code
def yX9_told : MethodName := ⟨RX9, "told", "(I)I"⟩
abbrev cX9_count : ByteArray := prog_1_method_15_code
def yX9_count : MethodName := ⟨RX9, "count", "(II)I"⟩
def RX10 : String := "KindJudgeModel"
def TX10 : u_T := fun k => match k with
  | 0 => ("KindJudgeModel", "methods", "I", false)
  | 1 => ("KindJudgeModel", "params", "[I", true)
  | 2 => ("KindJudgeModel", "opMany", "[I", true)
  | 3 => ("KindJudgeModel", "ops", "[I", true)
  | 4 => ("KindJudgeModel", "as", "[J", true)
  | 5 => ("KindJudgeModel", "handlerMany", "[I", true)
  | 6 => ("KindJudgeModel", "handlers", "[I", true)
  | 7 => ("KindJudgeModel", "frameDepth", "[I", true)
  | 8 => ("KindJudgeModel", "frames", "[I", true)
  | 9 => ("KindJudgeModel", "isRight", "[Z", true)
  | 10 => ("KindJudgeModel", "lookedMany", "I", false)
  | 11 => ("KindJudgeModel", "seenDepth", "[I", true)
  | 12 => ("KindJudgeModel", "seen", "[I", true)
  | 13 => ("KindJudgeModel", "rounds", "I", false)
  | 14 => ("KindJudgeModel", "hand", "[I", true)
  | 15 => ("KindJudgeModel", "depth", "I", false)
  | 16 => ("KindJudgeModel", "hasChanged", "Z", false)
  | 17 => ("KindJudgeModel", "came", "[I", true)
  | 18 => ("KindJudgeModel", "places", "[J", true)
  | 19 => ("KindJudgeModel", "heights", "[I", true)
  | 20 => ("KindJudgeModel", "methodAt", "[I", true)
  | 21 => ("KindJudgeModel", "pcs", "[I", true)
  | 22 => ("KindJudgeModel", "frame", "I", false)
  | 23 => ("KindJudgeModel", "made", "I", false)
  | 24 => ("KindJudgeModel", "sorts", "[I", true)
  | 25 => ("KindJudgeModel", "sizes", "[I", true)
  | 26 => ("KindJudgeModel", "fields", "[I", true)
  | 27 => ("KindJudgeModel", "things", "[J", true)
  | 28 => ("KindJudgeModel", "answer", "I", false)
  | 29 => ("KindJudgeModel", "done", "I", false)
  | 30 => ("KindJudgeModel", "failures", "I", false)
  | 31 => ("KindJudgeModel", "failedIn", "I", false)
  | 32 => ("KindJudgeModel", "failedAt", "I", false)
  | 33 => ("KindJudgeModel", "hasRun", "Z", false)
  | _ => ("KindJudgeModel", "failure", "I", false)
def tyX10 : Nat → FieldType := fun k => match k with
  | 0 => .int
  | 1 => .array .int
  | 2 => .array .int
  | 3 => .array .int
  | 4 => .array .long
  | 5 => .array .int
  | 6 => .array .int
  | 7 => .array .int
  | 8 => .array .int
  | 9 => .array .boolean
  | 10 => .int
  | 11 => .array .int
  | 12 => .array .int
  | 13 => .int
  | 14 => .array .int
  | 15 => .int
  | 16 => .boolean
  | 17 => .array .int
  | 18 => .array .long
  | 19 => .array .int
  | 20 => .array .int
  | 21 => .array .int
  | 22 => .int
  | 23 => .int
  | 24 => .array .int
  | 25 => .array .int
  | 26 => .array .int
  | 27 => .array .long
  | 28 => .int
  | 29 => .int
  | 30 => .int
  | 31 => .int
  | 32 => .int
  | 33 => .boolean
  | _ => .int
abbrev wsX100 : List Cond := u_ws RX10 TX10 35
theorem nmX10 : ∀ a, a < 35 → ∀ b, b < 35 → a ≠ b → (TX10 a).2.1 ≠ (TX10 b).2.1 := by decide +kernel
theorem tyX10_ok : ∀ k, k < 35 → parseFieldDescriptor (TX10 k).2.2.1 = some (tyX10 k) := by decide +kernel
abbrev cX10_init : ByteArray := prog_12_method_1_code
def yX10_init : MethodName := ⟨RX10, "<init>", "()V"⟩
abbrev cX10_isIn : ByteArray := prog_12_method_2_code
def yX10_isIn : MethodName := ⟨RX10, "isIn", "(JJJ)Z"⟩
abbrev cX10_isMethod : ByteArray := prog_12_method_3_code
def yX10_isMethod : MethodName := ⟨RX10, "isMethod", "(I)Z"⟩
abbrev cX10_above : ByteArray := prog_12_method_4_code
def yX10_above : MethodName := ⟨RX10, "above", "(I)I"⟩
abbrev cX10_isUnder : ByteArray := prog_12_method_5_code
def yX10_isUnder : MethodName := ⟨RX10, "isUnder", "(II)Z"⟩
abbrev cX10_isObject : ByteArray := prog_12_method_6_code
def yX10_isObject : MethodName := ⟨RX10, "isObject", "(I)Z"⟩
abbrev cX10_isRow : ByteArray := prog_12_method_7_code
def yX10_isRow : MethodName := ⟨RX10, "isRow", "(I)Z"⟩
abbrev cX10_isThing : ByteArray := prog_12_method_8_code
def yX10_isThing : MethodName := ⟨RX10, "isThing", "(I)Z"⟩
abbrev cX10_isKind : ByteArray := prog_12_method_9_code
def yX10_isKind : MethodName := ⟨RX10, "isKind", "(I)Z"⟩
abbrev cX10_goes : ByteArray := prog_12_method_10_code
def yX10_goes : MethodName := ⟨RX10, "goes", "(II)Z"⟩
abbrev cX10_common : ByteArray := prog_12_method_11_code
def yX10_common : MethodName := ⟨RX10, "common", "(II)I"⟩
abbrev cX10_joined : ByteArray := prog_12_method_12_code
def yX10_joined : MethodName := ⟨RX10, "joined", "(II)I"⟩
abbrev cX10_kinds : ByteArray := prog_12_method_13_code
def yX10_kinds : MethodName := ⟨RX10, "kinds", "(IIZ)I"⟩
abbrev cX10_method : ByteArray := prog_12_method_14_code
def yX10_method : MethodName := ⟨RX10, "method", "(I)I"⟩
abbrev cX10_changed : ByteArray := prog_12_method_15_code
def yX10_changed : MethodName := ⟨RX10, "changed", "(I)V"⟩
abbrev cX10_op : ByteArray := prog_12_method_16_code
def yX10_op : MethodName := ⟨RX10, "op", "(IIJ)I"⟩
abbrev cX10_handler : ByteArray := prog_12_method_17_code
def yX10_handler : MethodName := ⟨RX10, "handler", "(IIIII)I"⟩
abbrev cX10_frame : ByteArray := prog_12_method_18_code
def yX10_frame : MethodName := ⟨RX10, "frame", "(III)I"⟩
abbrev cX10_set : ByteArray := prog_12_method_19_code
def yX10_set : MethodName := ⟨RX10, "set", "(IIII)I"⟩
abbrev cX10_push : ByteArray := prog_12_method_20_code
def yX10_push : MethodName := ⟨RX10, "push", "(I)Z"⟩
abbrev cX10_pop : ByteArray := prog_12_method_21_code
def yX10_pop : MethodName := ⟨RX10, "pop", "(I)Z"⟩
abbrev cX10_pushLong : ByteArray := prog_12_method_22_code
def yX10_pushLong : MethodName := ⟨RX10, "pushLong", "()Z"⟩
abbrev cX10_popLong : ByteArray := prog_12_method_23_code
def yX10_popLong : MethodName := ⟨RX10, "popLong", "()Z"⟩
abbrev cX10_isOnePlace : ByteArray := prog_12_method_24_code
def yX10_isOnePlace : MethodName := ⟨RX10, "isOnePlace", "(I)Z"⟩
abbrev cX10_isOneOnTop : ByteArray := prog_12_method_25_code
def yX10_isOneOnTop : MethodName := ⟨RX10, "isOneOnTop", "(I)Z"⟩
abbrev cX10_local : ByteArray := prog_12_method_26_code
def yX10_local : MethodName := ⟨RX10, "local", "(II)V"⟩
abbrev cX10_does : ByteArray := prog_12_method_27_code
def yX10_does : MethodName := ⟨RX10, "does", "(II)Z"⟩
abbrev cX10_isNew : ByteArray := prog_12_method_28_code
def yX10_isNew : MethodName := ⟨RX10, "isNew", "(IJ)Z"⟩
abbrev cX10_isMade : ByteArray := prog_12_method_29_code
def yX10_isMade : MethodName := ⟨RX10, "isMade", "(IJ)Z"⟩
abbrev cX10_doesMore : ByteArray := prog_12_method_30_code
def yX10_doesMore : MethodName := ⟨RX10, "doesMore", "(IIIJ)Z"⟩
abbrev cX10_isLast : ByteArray := prog_12_method_31_code
def yX10_isLast : MethodName := ⟨RX10, "isLast", "(I)Z"⟩
abbrev cX10_leads : ByteArray := prog_12_method_32_code
def yX10_leads : MethodName := ⟨RX10, "leads", "(I)Z"⟩
abbrev cX10_begins : ByteArray := prog_12_method_33_code
def yX10_begins : MethodName := ⟨RX10, "begins", "(I)V"⟩
abbrev cX10_sees : ByteArray := prog_12_method_34_code
def yX10_sees : MethodName := ⟨RX10, "sees", "(I)V"⟩
abbrev cX10_takes : ByteArray := prog_12_method_35_code
def yX10_takes : MethodName := ⟨RX10, "takes", "(I)V"⟩
abbrev cX10_goesToFrame : ByteArray := prog_12_method_36_code
def yX10_goesToFrame : MethodName := ⟨RX10, "goesToFrame", "(II)Z"⟩
abbrev cX10_handlersFit : ByteArray := prog_12_method_37_code
def yX10_handlersFit : MethodName := ⟨RX10, "handlersFit", "(II)Z"⟩
abbrev cX10_wrongByFrames : ByteArray := prog_12_method_38_code
def yX10_wrongByFrames : MethodName := ⟨RX10, "wrongByFrames", "(I)I"⟩
abbrev cX10_judge : ByteArray := prog_12_method_39_code
def yX10_judge : MethodName := ⟨RX10, "judge", "(I)I"⟩
abbrev cX10_comesTo : ByteArray := prog_12_method_40_code
def yX10_comesTo : MethodName := ⟨RX10, "comesTo", "(II)Z"⟩
abbrev cX10_goesOn : ByteArray := prog_12_method_41_code
def yX10_goesOn : MethodName := ⟨RX10, "goesOn", "(II)Z"⟩
abbrev cX10_ahead : ByteArray := prog_12_method_42_code
def yX10_ahead : MethodName := ⟨RX10, "ahead", "(I)V"⟩
abbrev cX10_wrongJoined : ByteArray := prog_12_method_43_code
def yX10_wrongJoined : MethodName := ⟨RX10, "wrongJoined", "(I)I"⟩
abbrev cX10_join : ByteArray := prog_12_method_44_code
def yX10_join : MethodName := ⟨RX10, "join", "(I)I"⟩
abbrev cX10_kind : ByteArray := prog_12_method_45_code
def yX10_kind : MethodName := ⟨RX10, "kind", "(II)I"⟩
abbrev cX10_rounds : ByteArray := prog_12_method_46_code
def yX10_rounds : MethodName := ⟨RX10, "rounds", "()I"⟩
abbrev cX10_areRight : ByteArray := prog_12_method_47_code
def yX10_areRight : MethodName := ⟨RX10, "areRight", "(I)Z"⟩
abbrev cX10_put : ByteArray := prog_12_method_48_code
def yX10_put : MethodName := ⟨RX10, "put", "(J)V"⟩
abbrev cX10_take : ByteArray := prog_12_method_49_code
def yX10_take : MethodName := ⟨RX10, "take", "()J"⟩
abbrev cX10_putLong : ByteArray := prog_12_method_50_code
def yX10_putLong : MethodName := ⟨RX10, "putLong", "(J)V"⟩
abbrev cX10_takeLong : ByteArray := prog_12_method_51_code
def yX10_takeLong : MethodName := ⟨RX10, "takeLong", "()J"⟩
abbrev cX10_run : ByteArray := prog_12_method_52_code
def yX10_run : MethodName := ⟨RX10, "run", "(IIIII)I"⟩
abbrev cX10_after : ByteArray := prog_12_method_53_code
def yX10_after : MethodName := ⟨RX10, "after", "(I)I"⟩
abbrev cX10_arith : ByteArray := prog_12_method_54_code
def yX10_arith : MethodName := ⟨RX10, "arith", "(JII)I"⟩
abbrev cX10_arithLong : ByteArray := prog_12_method_55_code
def yX10_arithLong : MethodName := ⟨RX10, "arithLong", "(JJJ)J"⟩
abbrev cX10_works : ByteArray := prog_12_method_56_code
def yX10_works : MethodName := ⟨RX10, "works", "()I"⟩
abbrev cX10_simple : ByteArray := prog_12_method_57_code
def yX10_simple : MethodName := ⟨RX10, "simple", "(IJ)I"⟩
abbrev cX10_make : ByteArray := prog_12_method_58_code
def yX10_make : MethodName := ⟨RX10, "make", "(II)I"⟩
abbrev cX10_isOf : ByteArray := prog_12_method_59_code
def yX10_isOf : MethodName := ⟨RX10, "isOf", "(II)Z"⟩
abbrev cX10_worth : ByteArray := prog_12_method_60_code
def yX10_worth : MethodName := ⟨RX10, "worth", "(I)I"⟩
abbrev cX10_ofThings : ByteArray := prog_12_method_61_code
def yX10_ofThings : MethodName := ⟨RX10, "ofThings", "(IJ)I"⟩
abbrev cX10_others : ByteArray := prog_12_method_62_code
def yX10_others : MethodName := ⟨RX10, "others", "(IJ)I"⟩
abbrev cX10_calls : ByteArray := prog_12_method_63_code
def yX10_calls : MethodName := ⟨RX10, "calls", "(I)V"⟩
abbrev cX10_answer : ByteArray := prog_12_method_64_code
def yX10_answer : MethodName := ⟨RX10, "answer", "()I"⟩
abbrev cX10_told : ByteArray := prog_12_method_65_code
def yX10_told : MethodName := ⟨RX10, "told", "(I)I"⟩
abbrev cX10_count : ByteArray := prog_12_method_66_code
def yX10_count : MethodName := ⟨RX10, "count", "(II)I"⟩
def RJ10 : String := "java/lang/System"
def TJ10 : u_T := fun k => match k with
  | _ => ("", "", "", false)
def tyJ10 : Nat → FieldType := fun k => match k with
  | _ => .int
abbrev wsJ100 : List Cond := u_ws RJ10 TJ10 0
theorem nmJ10 : ∀ a, a < 0 → ∀ b, b < 0 → a ≠ b → (TJ10 a).2.1 ≠ (TJ10 b).2.1 := by decide +kernel
theorem tyJ10_ok : ∀ k, k < 0 → parseFieldDescriptor (TJ10 k).2.2.1 = some (tyJ10 k) := by decide +kernel
def RL : String := "KindJudgeLaw"
abbrev cL_law : ByteArray := code
def yL_law : MethodName := ⟨RL, "law", "([I)Z"⟩
abbrev vwCl : List vw_C := [(RX0, TX0, 12), (RX1, TX1, 5), (RX2, TX2, 6), (RX4, TX4, 14), (RX6, TX6, 2), (RX7, TX7, 2), (RX8, TX8, 3), (RX9, TX9, 3), (RX10, TX10, 35)]
/-- the words that a callee may count on -/
def gw : List Cond := lw_tbl.filter goodWord
theorem gw_at {w : Cond} (k : Nat) (h : lw_tbl[k]? = some w) (hg : goodWord w = true) : w ∈ gw := List.mem_filter.mpr ⟨List.mem_of_getElem? h, hg⟩
theorem gw_in {w : Cond} (h : w ∈ lw_tbl) (hg : goodWord w = true) : w ∈ gw := List.mem_filter.mpr ⟨h, hg⟩
theorem tb_1 {w : Cond} (h : w ∈ tables_1_1) : w ∈ lw_tbl := List.mem_append_right _ (List.mem_append_left _ h)
theorem tb_2 {w : Cond} (h : w ∈ tables_1_2) : w ∈ lw_tbl := List.mem_append_right _ (List.mem_append_right _ (List.mem_append_left _ h))
theorem tb_3 {w : Cond} (h : w ∈ tables_1_3) : w ∈ lw_tbl := List.mem_append_right _ (List.mem_append_right _ (List.mem_append_right _ (List.mem_append_left _ h)))
theorem tb_4 {w : Cond} (h : w ∈ tables_1_4) : w ∈ lw_tbl := List.mem_append_right _ (List.mem_append_right _ (List.mem_append_right _ (List.mem_append_right _ (List.mem_append_left _ h))))
theorem tb_5 {w : Cond} (h : w ∈ tables_1_5) : w ∈ lw_tbl := List.mem_append_right _ (List.mem_append_right _ (List.mem_append_right _ (List.mem_append_right _ (List.mem_append_right _ h))))
theorem gw_all {ws : List Cond} (ps : List Nat) (h : ws.map some = ps.map (fun i => lw_tbl[i]?)) (hg : ws.all goodWord = true) : ∀ w ∈ ws, w ∈ gw := by
  intro w hw
  have h1 : some w ∈ ws.map some := List.mem_map.mpr ⟨w, hw, rfl⟩
  rw [h] at h1
  obtain ⟨i, -, hi⟩ := List.mem_map.mp h1
  exact List.mem_filter.mpr ⟨List.mem_of_getElem? hi, List.all_eq_true.mp hg w hw⟩
theorem gw_tbl {w : Cond} (h : w ∈ gw) : w ∈ lw_tbl := (List.mem_filter.mp h).1
theorem gw_good {y : MethodName} {cc : ByteArray} {nL : Nat} {ret : Option FieldType} (hc : Cond.code y cc nL ret ∈ gw) : GoodIn gw (Cond.code y cc nL ret :: gw) := by
  intro w hw
  have hm : w ∈ gw := (List.mem_cons.mp hw).elim (fun e => by rw [e]; exact hc) id
  exact ⟨hm, good_of_word (List.mem_filter.mp hm).2⟩
theorem gX0 : ∀ w ∈ u_ws RX0 TX0 12, w ∈ gw := gw_all [315, 317, 319, 321, 323, 325, 327, 329, 331, 333, 335, 337] (by decide +kernel) (by decide +kernel)
theorem gX1 : ∀ w ∈ u_ws RX1 TX1 5, w ∈ gw := gw_all [200, 202, 204, 206, 208] (by decide +kernel) (by decide +kernel)
theorem gX2 : ∀ w ∈ u_ws RX2 TX2 6, w ∈ gw := gw_all [168, 170, 172, 174, 176, 178] (by decide +kernel) (by decide +kernel)
theorem gX3 : ∀ w ∈ u_ws RX3 TX3 0, w ∈ gw := gw_all [] (by decide +kernel) (by decide +kernel)
theorem gX4 : ∀ w ∈ u_ws RX4 TX4 14, w ∈ gw := gw_all [233, 235, 237, 239, 241, 243, 245, 247, 249, 251, 253, 255, 257, 259] (by decide +kernel) (by decide +kernel)
theorem gX5 : ∀ w ∈ u_ws RX5 TX5 0, w ∈ gw := gw_all [] (by decide +kernel) (by decide +kernel)
theorem gX6 : ∀ w ∈ u_ws RX6 TX6 2, w ∈ gw := gw_all [134, 136] (by decide +kernel) (by decide +kernel)
theorem gX7 : ∀ w ∈ u_ws RX7 TX7 2, w ∈ gw := gw_all [110, 112] (by decide +kernel) (by decide +kernel)
theorem gX8 : ∀ w ∈ u_ws RX8 TX8 3, w ∈ gw := gw_all [154, 156, 158] (by decide +kernel) (by decide +kernel)
theorem gX9 : ∀ w ∈ u_ws RX9 TX9 3, w ∈ gw := gw_all [266, 268, 270] (by decide +kernel) (by decide +kernel)
theorem gX10 : ∀ w ∈ u_ws RX10 TX10 35, w ∈ gw := gw_all [870, 872, 874, 876, 878, 880, 882, 884, 886, 888, 890, 892, 894, 896, 898, 900, 902, 904, 906, 908, 910, 912, 914, 916, 918, 920, 922, 924, 926, 928, 930, 932, 934, 936, 938] (by decide +kernel) (by decide +kernel)
def mNest : List (String × Nat × MethodName × String) := [(RX9, 9, yX7_init, "KindJudge"), (RX2, 19, yX6_init, "KindJudge"), (RX2, 26, yX8_init, "KindJudge"), (RX8, 9, yX6_init, "KindJudge"), (RX9, 25, yX4_init, "KindJudge"), (RX4, 13, yX1_init, "KindJudge"), (RX0, 54, yX6_init, "KindJudge")]
theorem mNest_in : ∀ q ∈ mNest, Cond.methodLinkNest q.1 q.2.1 q.2.2.1 q.2.2.2 ∈ lw_tbl := List.forall_mem_cons.mpr ⟨List.mem_of_getElem? (i := 101) (by decide +kernel), (List.forall_mem_cons.mpr ⟨List.mem_of_getElem? (i := 124) (by decide +kernel), (List.forall_mem_cons.mpr ⟨List.mem_of_getElem? (i := 142) (by decide +kernel), (List.forall_mem_cons.mpr ⟨List.mem_of_getElem? (i := 147) (by decide +kernel), (List.forall_mem_cons.mpr ⟨List.mem_of_getElem? (i := 183) (by decide +kernel), (List.forall_mem_cons.mpr ⟨List.mem_of_getElem? (i := 189) (by decide +kernel), (List.forall_mem_cons.mpr ⟨List.mem_of_getElem? (i := 368) (by decide +kernel), (fun _ h => absurd h List.not_mem_nil)⟩)⟩)⟩)⟩)⟩)⟩)⟩
theorem ao_X0 : Cond.arrayOver (.object RX0) ∈ lw_tbl := List.mem_of_getElem? (i := 106) (by decide +kernel)
theorem ao_X6 : Cond.arrayOver (.object RX6) ∈ lw_tbl := List.mem_of_getElem? (i := 122) (by decide +kernel)
end
section
theorem ini_L : Cond.initialized RL ∈ gw := gw_at 79 (by decide +kernel) rfl
theorem ini_X9 : Cond.initialized RX9 ∈ gw := gw_at 80 (by decide +kernel) rfl
theorem ini_X7 : Cond.initialized RX7 ∈ gw := gw_at 81 (by decide +kernel) rfl
theorem ini_X2 : Cond.initialized RX2 ∈ gw := gw_at 82 (by decide +kernel) rfl
theorem ini_X6 : Cond.initialized RX6 ∈ gw := gw_at 83 (by decide +kernel) rfl
theorem ini_X8 : Cond.initialized RX8 ∈ gw := gw_at 84 (by decide +kernel) rfl
theorem ini_X4 : Cond.initialized RX4 ∈ gw := gw_at 85 (by decide +kernel) rfl
theorem ini_X1 : Cond.initialized RX1 ∈ gw := gw_at 86 (by decide +kernel) rfl
theorem ini_X10 : Cond.initialized RX10 ∈ gw := gw_at 87 (by decide +kernel) rfl
theorem ini_X0 : Cond.initialized RX0 ∈ gw := gw_at 88 (by decide +kernel) rfl
theorem ini_X3 : Cond.initialized RX3 ∈ gw := gw_at 89 (by decide +kernel) rfl
theorem ini_J10 : Cond.initialized RJ10 ∈ gw := gw_at 90 (by decide +kernel) rfl
theorem cl_L_7 : Cond.classLink RL 7 RX9 ∈ gw := gw_at 91 (by decide +kernel) rfl
theorem ins_X9 : Cond.instantiable RX9 3 ∈ gw := gw_at 92 (by decide +kernel) rfl
theorem ml_L_9 : Cond.methodLink RL 9 yX9_init ∈ gw := gw_at 93 (by decide +kernel) rfl
theorem im_X9_init : Cond.instanceMethod yX9_init ∈ gw := gw_at 94 (by decide +kernel) rfl
theorem cd_X9_init : Cond.code yX9_init cX9_init 1 none ∈ gw := gw_in (tb_1 (List.mem_of_getElem? (i := 16) rfl)) rfl
theorem ml_X9_1 : Cond.methodLink RX9 1 objectInit ∈ gw := gw_at 96 (by decide +kernel) rfl
theorem im_objectInit : Cond.instanceMethod objectInit ∈ gw := gw_at 97 (by decide +kernel) rfl
theorem cd_objectInit : Cond.code objectInit ⟨#[0xb1]⟩ 1 none ∈ gw := gw_in (tb_1 (List.mem_of_getElem? (i := 19) rfl)) rfl
theorem cl_X9_7 : Cond.classLink RX9 7 RX7 ∈ gw := gw_at 99 (by decide +kernel) rfl
theorem ins_X7 : Cond.instantiable RX7 2 ∈ gw := gw_at 100 (by decide +kernel) rfl
theorem im_X7_init : Cond.instanceMethod yX7_init ∈ gw := gw_at 102 (by decide +kernel) rfl
theorem cd_X7_init : Cond.code yX7_init cX7_init 1 none ∈ gw := gw_in (tb_1 (List.mem_of_getElem? (i := 24) rfl)) rfl
theorem ml_X7_3 : Cond.methodLink RX7 3 objectInit ∈ gw := gw_at 104 (by decide +kernel) rfl
theorem cl_X7_11 : Cond.classLink RX7 11 RX0 ∈ gw := gw_at 105 (by decide +kernel) rfl
theorem fl_X7_13 : Cond.fieldLink RX7 13 "KindJudge$Program" "codes" "[LKindJudge$Code;" ∈ gw := gw_at 107 (by decide +kernel) rfl
theorem fl_X7_17 : Cond.fieldLink RX7 17 "KindJudge$Program" "size" "I" ∈ gw := gw_at 108 (by decide +kernel) rfl
theorem fl_X9_135 : Cond.fieldLink RX9 135 "KindJudge$Program" "size" "I" ∈ gw := gw_at 109 (by decide +kernel) rfl
theorem cl_X9_16 : Cond.classLink RX9 16 RX2 ∈ gw := gw_at 115 (by decide +kernel) rfl
theorem ins_X2 : Cond.instantiable RX2 6 ∈ gw := gw_at 116 (by decide +kernel) rfl
theorem ml_X9_18 : Cond.methodLink RX9 18 yX2_init ∈ gw := gw_at 117 (by decide +kernel) rfl
theorem im_X2_init : Cond.instanceMethod yX2_init ∈ gw := gw_at 118 (by decide +kernel) rfl
theorem cd_X2_init : Cond.code yX2_init cX2_init 2 none ∈ gw := gw_in (tb_1 (List.mem_of_getElem? (i := 40) rfl)) rfl
theorem ml_X2_3 : Cond.methodLink RX2 3 objectInit ∈ gw := gw_at 120 (by decide +kernel) rfl
theorem cl_X2_11 : Cond.classLink RX2 11 RX6 ∈ gw := gw_at 121 (by decide +kernel) rfl
theorem ins_X6 : Cond.instantiable RX6 2 ∈ gw := gw_at 123 (by decide +kernel) rfl
theorem im_X6_init : Cond.instanceMethod yX6_init ∈ gw := gw_at 125 (by decide +kernel) rfl
theorem cd_X6_init : Cond.code yX6_init cX6_init 1 none ∈ gw := gw_in (tb_1 (List.mem_of_getElem? (i := 47) rfl)) rfl
theorem ml_X6_1 : Cond.methodLink RX6 1 objectInit ∈ gw := gw_at 127 (by decide +kernel) rfl
theorem fl_X6_9 : Cond.fieldLink RX6 9 "KindJudge$Places" "kinds" "[I" ∈ gw := gw_at 128 (by decide +kernel) rfl
theorem fl_X2_40 : Cond.fieldLink RX2 40 "KindJudge$Places" "kinds" "[I" ∈ gw := gw_at 129 (by decide +kernel) rfl
theorem fl_X8_83 : Cond.fieldLink RX8 83 "KindJudge$Places" "kinds" "[I" ∈ gw := gw_at 130 (by decide +kernel) rfl
theorem fl_X6_13 : Cond.fieldLink RX6 13 "KindJudge$Places" "depth" "I" ∈ gw := gw_at 131 (by decide +kernel) rfl
theorem fl_X2_47 : Cond.fieldLink RX2 47 "KindJudge$Places" "depth" "I" ∈ gw := gw_at 132 (by decide +kernel) rfl
theorem fl_X0_59 : Cond.fieldLink RX0 59 "KindJudge$Places" "depth" "I" ∈ gw := gw_at 133 (by decide +kernel) rfl
theorem ac_int : Cond.arrayClass .int ∈ gw := gw_at 139 (by decide +kernel) rfl
theorem cl_X2_24 : Cond.classLink RX2 24 RX8 ∈ gw := gw_at 140 (by decide +kernel) rfl
theorem ins_X8 : Cond.instantiable RX8 3 ∈ gw := gw_at 141 (by decide +kernel) rfl
theorem im_X8_init : Cond.instanceMethod yX8_init ∈ gw := gw_at 143 (by decide +kernel) rfl
theorem cd_X8_init : Cond.code yX8_init cX8_init 1 none ∈ gw := gw_in (tb_1 (List.mem_of_getElem? (i := 65) rfl)) rfl
theorem ml_X8_1 : Cond.methodLink RX8 1 objectInit ∈ gw := gw_at 145 (by decide +kernel) rfl
theorem cl_X8_7 : Cond.classLink RX8 7 RX6 ∈ gw := gw_at 146 (by decide +kernel) rfl
theorem fl_X8_10 : Cond.fieldLink RX8 10 "KindJudge$Step" "now" "LKindJudge$Places;" ∈ gw := gw_at 148 (by decide +kernel) rfl
theorem fl_X2_54 : Cond.fieldLink RX2 54 "KindJudge$Step" "now" "LKindJudge$Places;" ∈ gw := gw_at 149 (by decide +kernel) rfl
theorem fl_X8_30 : Cond.fieldLink RX8 30 "KindJudge$Step" "leads" "I" ∈ gw := gw_at 150 (by decide +kernel) rfl
theorem fl_X2_92 : Cond.fieldLink RX2 92 "KindJudge$Step" "leads" "I" ∈ gw := gw_at 151 (by decide +kernel) rfl
theorem fl_X8_36 : Cond.fieldLink RX8 36 "KindJudge$Step" "falls" "Z" ∈ gw := gw_at 152 (by decide +kernel) rfl
theorem fl_X2_88 : Cond.fieldLink RX2 88 "KindJudge$Step" "falls" "Z" ∈ gw := gw_at 153 (by decide +kernel) rfl
theorem fl_X2_13 : Cond.fieldLink RX2 13 "KindJudge$Judging" "ahead" "[LKindJudge$Places;" ∈ gw := gw_at 161 (by decide +kernel) rfl
theorem fl_X2_20 : Cond.fieldLink RX2 20 "KindJudge$Judging" "caught" "LKindJudge$Places;" ∈ gw := gw_at 162 (by decide +kernel) rfl
theorem fl_X2_27 : Cond.fieldLink RX2 27 "KindJudge$Judging" "step" "LKindJudge$Step;" ∈ gw := gw_at 163 (by decide +kernel) rfl
theorem fl_X2_31 : Cond.fieldLink RX2 31 "KindJudge$Judging" "judgedSize" "I" ∈ gw := gw_at 164 (by decide +kernel) rfl
theorem fl_X2_119 : Cond.fieldLink RX2 119 "KindJudge$Judging" "changed" "Z" ∈ gw := gw_at 165 (by decide +kernel) rfl
theorem fl_X2_112 : Cond.fieldLink RX2 112 "KindJudge$Judging" "roundsGone" "I" ∈ gw := gw_at 166 (by decide +kernel) rfl
theorem fl_X9_85 : Cond.fieldLink RX9 85 "KindJudge$Judging" "roundsGone" "I" ∈ gw := gw_at 167 (by decide +kernel) rfl
theorem cl_X9_23 : Cond.classLink RX9 23 RX4 ∈ gw := gw_at 181 (by decide +kernel) rfl
theorem ins_X4 : Cond.instantiable RX4 14 ∈ gw := gw_at 182 (by decide +kernel) rfl
theorem im_X4_init : Cond.instanceMethod yX4_init ∈ gw := gw_at 184 (by decide +kernel) rfl
theorem cd_X4_init : Cond.code yX4_init cX4_init 1 none ∈ gw := gw_in (tb_1 (List.mem_of_getElem? (i := 106) rfl)) rfl
theorem ml_X4_5 : Cond.methodLink RX4 5 objectInit ∈ gw := gw_at 186 (by decide +kernel) rfl
theorem cl_X4_11 : Cond.classLink RX4 11 RX1 ∈ gw := gw_at 187 (by decide +kernel) rfl
theorem ins_X1 : Cond.instantiable RX1 5 ∈ gw := gw_at 188 (by decide +kernel) rfl
theorem im_X1_init : Cond.instanceMethod yX1_init ∈ gw := gw_at 190 (by decide +kernel) rfl
theorem cd_X1_init : Cond.code yX1_init cX1_init 1 none ∈ gw := gw_in (tb_1 (List.mem_of_getElem? (i := 112) rfl)) rfl
theorem ml_X1_1 : Cond.methodLink RX1 1 objectInit ∈ gw := gw_at 192 (by decide +kernel) rfl
theorem fl_X1_9 : Cond.fieldLink RX1 9 "KindJudge$Heap" "kinds" "[I" ∈ gw := gw_at 193 (by decide +kernel) rfl
theorem fl_X1_13 : Cond.fieldLink RX1 13 "KindJudge$Heap" "lengths" "[I" ∈ gw := gw_at 194 (by decide +kernel) rfl
theorem fl_X1_16 : Cond.fieldLink RX1 16 "KindJudge$Heap" "fields" "[I" ∈ gw := gw_at 195 (by decide +kernel) rfl
theorem fl_X1_19 : Cond.fieldLink RX1 19 "KindJudge$Heap" "items" "[I" ∈ gw := gw_at 196 (by decide +kernel) rfl
theorem fl_X1_22 : Cond.fieldLink RX1 22 "KindJudge$Heap" "made" "I" ∈ gw := gw_at 197 (by decide +kernel) rfl
theorem fl_X4_57 : Cond.fieldLink RX4 57 "KindJudge$Heap" "made" "I" ∈ gw := gw_at 198 (by decide +kernel) rfl
theorem fl_X9_124 : Cond.fieldLink RX9 124 "KindJudge$Heap" "made" "I" ∈ gw := gw_at 199 (by decide +kernel) rfl
theorem cl_X4_20 : Cond.classLink RX4 20 RX0 ∈ gw := gw_at 211 (by decide +kernel) rfl
theorem ki_X4_42 : Cond.constant RX4 42 (-99999999) ∈ gw := gw_at 212 (by decide +kernel) rfl
theorem fl_X4_14 : Cond.fieldLink RX4 14 "KindJudge$Machine" "heap" "LKindJudge$Heap;" ∈ gw := gw_at 213 (by decide +kernel) rfl
theorem fl_X9_120 : Cond.fieldLink RX9 120 "KindJudge$Machine" "heap" "LKindJudge$Heap;" ∈ gw := gw_at 214 (by decide +kernel) rfl
theorem fl_X4_22 : Cond.fieldLink RX4 22 "KindJudge$Machine" "codes" "[LKindJudge$Code;" ∈ gw := gw_at 215 (by decide +kernel) rfl
theorem fl_X4_26 : Cond.fieldLink RX4 26 "KindJudge$Machine" "ats" "[I" ∈ gw := gw_at 216 (by decide +kernel) rfl
theorem fl_X4_30 : Cond.fieldLink RX4 30 "KindJudge$Machine" "depths" "[I" ∈ gw := gw_at 217 (by decide +kernel) rfl
theorem fl_X4_35 : Cond.fieldLink RX4 35 "KindJudge$Machine" "locals" "[J" ∈ gw := gw_at 218 (by decide +kernel) rfl
theorem fl_X4_39 : Cond.fieldLink RX4 39 "KindJudge$Machine" "stack" "[J" ∈ gw := gw_at 219 (by decide +kernel) rfl
theorem fl_X4_50 : Cond.fieldLink RX4 50 "KindJudge$Machine" "level" "I" ∈ gw := gw_at 220 (by decide +kernel) rfl
theorem fl_X4_60 : Cond.fieldLink RX4 60 "KindJudge$Machine" "outcome" "I" ∈ gw := gw_at 221 (by decide +kernel) rfl
theorem fl_X4_97 : Cond.fieldLink RX4 97 "KindJudge$Machine" "ownFailure" "I" ∈ gw := gw_at 222 (by decide +kernel) rfl
theorem fl_X4_63 : Cond.fieldLink RX4 63 "KindJudge$Machine" "result" "I" ∈ gw := gw_at 223 (by decide +kernel) rfl
theorem fl_X9_111 : Cond.fieldLink RX9 111 "KindJudge$Machine" "result" "I" ∈ gw := gw_at 224 (by decide +kernel) rfl
theorem fl_X4_66 : Cond.fieldLink RX4 66 "KindJudge$Machine" "done" "I" ∈ gw := gw_at 225 (by decide +kernel) rfl
theorem fl_X9_114 : Cond.fieldLink RX9 114 "KindJudge$Machine" "done" "I" ∈ gw := gw_at 226 (by decide +kernel) rfl
theorem fl_X4_69 : Cond.fieldLink RX4 69 "KindJudge$Machine" "failures" "I" ∈ gw := gw_at 227 (by decide +kernel) rfl
theorem fl_X9_117 : Cond.fieldLink RX9 117 "KindJudge$Machine" "failures" "I" ∈ gw := gw_at 228 (by decide +kernel) rfl
theorem fl_X4_43 : Cond.fieldLink RX4 43 "KindJudge$Machine" "failMethod" "I" ∈ gw := gw_at 229 (by decide +kernel) rfl
theorem fl_X9_129 : Cond.fieldLink RX9 129 "KindJudge$Machine" "failMethod" "I" ∈ gw := gw_at 230 (by decide +kernel) rfl
theorem fl_X4_47 : Cond.fieldLink RX4 47 "KindJudge$Machine" "failAt" "I" ∈ gw := gw_at 231 (by decide +kernel) rfl
theorem fl_X9_132 : Cond.fieldLink RX9 132 "KindJudge$Machine" "failAt" "I" ∈ gw := gw_at 232 (by decide +kernel) rfl
theorem ac_long : Cond.arrayClass .long ∈ gw := gw_at 262 (by decide +kernel) rfl
theorem fl_X9_10 : Cond.fieldLink RX9 10 "KindJudge" "program" "LKindJudge$Program;" ∈ gw := gw_at 263 (by decide +kernel) rfl
theorem fl_X9_19 : Cond.fieldLink RX9 19 "KindJudge" "judging" "LKindJudge$Judging;" ∈ gw := gw_at 264 (by decide +kernel) rfl
theorem fl_X9_26 : Cond.fieldLink RX9 26 "KindJudge" "machine" "LKindJudge$Machine;" ∈ gw := gw_at 265 (by decide +kernel) rfl
theorem ml_L_13 : Cond.methodLink RL 13 yX9_method ∈ gw := gw_at 273 (by decide +kernel) rfl
theorem im_X9_method : Cond.instanceMethod yX9_method ∈ gw := gw_at 274 (by decide +kernel) rfl
theorem se_X9_method : Cond.selects RX9 yX9_method yX9_method ∈ gw := gw_at 275 (by decide +kernel) rfl
theorem cd_X9_method : Cond.code yX9_method cX9_method 2 (some .int) ∈ gw := gw_in (tb_1 (List.mem_of_getElem? (i := 197) rfl)) rfl
theorem ml_X9_30 : Cond.methodLink RX9 30 yX7_add ∈ gw := gw_at 277 (by decide +kernel) rfl
theorem im_X7_add : Cond.instanceMethod yX7_add ∈ gw := gw_at 278 (by decide +kernel) rfl
theorem se_X7_add : Cond.selects RX7 yX7_add yX7_add ∈ gw := gw_at 279 (by decide +kernel) rfl
theorem cd_X7_add : Cond.code yX7_add cX7_add 2 (some .int) ∈ gw := gw_in (tb_1 (List.mem_of_getElem? (i := 201) rfl)) rfl
theorem ins_X0 : Cond.instantiable RX0 12 ∈ gw := gw_at 281 (by decide +kernel) rfl
theorem ml_X7_21 : Cond.methodLink RX7 21 yX0_init ∈ gw := gw_at 282 (by decide +kernel) rfl
theorem im_X0_init : Cond.instanceMethod yX0_init ∈ gw := gw_at 283 (by decide +kernel) rfl
theorem cd_X0_init : Cond.code yX0_init cX0_init 3 none ∈ gw := gw_in (tb_1 (List.mem_of_getElem? (i := 205) rfl)) rfl
theorem ml_X0_3 : Cond.methodLink RX0 3 objectInit ∈ gw := gw_at 285 (by decide +kernel) rfl
theorem cl_X0_31 : Cond.classLink RX0 31 RX6 ∈ gw := gw_at 286 (by decide +kernel) rfl
theorem fl_X0_37 : Cond.fieldLink RX0 37 "KindJudge$Code" "number" "I" ∈ gw := gw_at 287 (by decide +kernel) rfl
theorem fl_X4_94 : Cond.fieldLink RX4 94 "KindJudge$Code" "number" "I" ∈ gw := gw_at 288 (by decide +kernel) rfl
theorem fl_X8_142 : Cond.fieldLink RX8 142 "KindJudge$Code" "number" "I" ∈ gw := gw_at 289 (by decide +kernel) rfl
theorem fl_X0_41 : Cond.fieldLink RX0 41 "KindJudge$Code" "params" "I" ∈ gw := gw_at 290 (by decide +kernel) rfl
theorem fl_X2_57 : Cond.fieldLink RX2 57 "KindJudge$Code" "params" "I" ∈ gw := gw_at 291 (by decide +kernel) rfl
theorem fl_X8_151 : Cond.fieldLink RX8 151 "KindJudge$Code" "params" "I" ∈ gw := gw_at 292 (by decide +kernel) rfl
theorem fl_X4_226 : Cond.fieldLink RX4 226 "KindJudge$Code" "params" "I" ∈ gw := gw_at 293 (by decide +kernel) rfl
theorem fl_X0_11 : Cond.fieldLink RX0 11 "KindJudge$Code" "ops" "[I" ∈ gw := gw_at 294 (by decide +kernel) rfl
theorem fl_X8_22 : Cond.fieldLink RX8 22 "KindJudge$Code" "ops" "[I" ∈ gw := gw_at 295 (by decide +kernel) rfl
theorem fl_X4_80 : Cond.fieldLink RX4 80 "KindJudge$Code" "ops" "[I" ∈ gw := gw_at 296 (by decide +kernel) rfl
theorem fl_X0_15 : Cond.fieldLink RX0 15 "KindJudge$Code" "args" "[J" ∈ gw := gw_at 297 (by decide +kernel) rfl
theorem fl_X8_26 : Cond.fieldLink RX8 26 "KindJudge$Code" "args" "[J" ∈ gw := gw_at 298 (by decide +kernel) rfl
theorem fl_X4_83 : Cond.fieldLink RX4 83 "KindJudge$Code" "args" "[J" ∈ gw := gw_at 299 (by decide +kernel) rfl
theorem fl_X0_44 : Cond.fieldLink RX0 44 "KindJudge$Code" "size" "I" ∈ gw := gw_at 300 (by decide +kernel) rfl
theorem fl_X2_44 : Cond.fieldLink RX2 44 "KindJudge$Code" "size" "I" ∈ gw := gw_at 301 (by decide +kernel) rfl
theorem fl_X9_138 : Cond.fieldLink RX9 138 "KindJudge$Code" "size" "I" ∈ gw := gw_at 302 (by decide +kernel) rfl
theorem fl_X0_19 : Cond.fieldLink RX0 19 "KindJudge$Code" "froms" "[I" ∈ gw := gw_at 303 (by decide +kernel) rfl
theorem fl_X0_22 : Cond.fieldLink RX0 22 "KindJudge$Code" "tos" "[I" ∈ gw := gw_at 304 (by decide +kernel) rfl
theorem fl_X0_25 : Cond.fieldLink RX0 25 "KindJudge$Code" "ats" "[I" ∈ gw := gw_at 305 (by decide +kernel) rfl
theorem fl_X2_105 : Cond.fieldLink RX2 105 "KindJudge$Code" "ats" "[I" ∈ gw := gw_at 306 (by decide +kernel) rfl
theorem fl_X0_28 : Cond.fieldLink RX0 28 "KindJudge$Code" "whats" "[I" ∈ gw := gw_at 307 (by decide +kernel) rfl
theorem fl_X0_51 : Cond.fieldLink RX0 51 "KindJudge$Code" "handlers" "I" ∈ gw := gw_at 308 (by decide +kernel) rfl
theorem fl_X2_98 : Cond.fieldLink RX2 98 "KindJudge$Code" "handlers" "I" ∈ gw := gw_at 309 (by decide +kernel) rfl
theorem fl_X9_139 : Cond.fieldLink RX9 139 "KindJudge$Code" "handlers" "I" ∈ gw := gw_at 310 (by decide +kernel) rfl
theorem fl_X0_33 : Cond.fieldLink RX0 33 "KindJudge$Code" "frames" "[LKindJudge$Places;" ∈ gw := gw_at 311 (by decide +kernel) rfl
theorem fl_X0_47 : Cond.fieldLink RX0 47 "KindJudge$Code" "right" "Z" ∈ gw := gw_at 312 (by decide +kernel) rfl
theorem fl_X7_24 : Cond.fieldLink RX7 24 "KindJudge$Code" "right" "Z" ∈ gw := gw_at 313 (by decide +kernel) rfl
theorem fl_X9_67 : Cond.fieldLink RX9 67 "KindJudge$Code" "right" "Z" ∈ gw := gw_at 314 (by decide +kernel) rfl
theorem ml_L_20 : Cond.methodLink RL 20 yX9_op ∈ gw := gw_at 340 (by decide +kernel) rfl
theorem im_X9_op : Cond.instanceMethod yX9_op ∈ gw := gw_at 341 (by decide +kernel) rfl
theorem se_X9_op : Cond.selects RX9 yX9_op yX9_op ∈ gw := gw_at 342 (by decide +kernel) rfl
theorem cd_X9_op : Cond.code yX9_op cX9_op 6 (some .int) ∈ gw := gw_in (tb_2 (List.mem_of_getElem? (i := 24) rfl)) rfl
theorem ml_X9_34 : Cond.methodLink RX9 34 yX7_at ∈ gw := gw_at 344 (by decide +kernel) rfl
theorem im_X7_at : Cond.instanceMethod yX7_at ∈ gw := gw_at 345 (by decide +kernel) rfl
theorem se_X7_at : Cond.selects RX7 yX7_at yX7_at ∈ gw := gw_at 346 (by decide +kernel) rfl
theorem cd_X7_at : Cond.code yX7_at cX7_at 3 (some (.object "KindJudge$Code")) ∈ gw := gw_in (tb_2 (List.mem_of_getElem? (i := 28) rfl)) rfl
theorem ml_X9_38 : Cond.methodLink RX9 38 yX0_addInstruction ∈ gw := gw_at 348 (by decide +kernel) rfl
theorem im_X0_addInstruction : Cond.instanceMethod yX0_addInstruction ∈ gw := gw_at 349 (by decide +kernel) rfl
theorem se_X0_addInstruction : Cond.selects RX0 yX0_addInstruction yX0_addInstruction ∈ gw := gw_at 350 (by decide +kernel) rfl
theorem cd_X0_addInstruction : Cond.code yX0_addInstruction cX0_addInstruction 4 (some .int) ∈ gw := gw_in (tb_2 (List.mem_of_getElem? (i := 32) rfl)) rfl
theorem ml_L_25 : Cond.methodLink RL 25 yX9_handler ∈ gw := gw_at 352 (by decide +kernel) rfl
theorem im_X9_handler : Cond.instanceMethod yX9_handler ∈ gw := gw_at 353 (by decide +kernel) rfl
theorem se_X9_handler : Cond.selects RX9 yX9_handler yX9_handler ∈ gw := gw_at 354 (by decide +kernel) rfl
theorem cd_X9_handler : Cond.code yX9_handler cX9_handler 7 (some .int) ∈ gw := gw_in (tb_2 (List.mem_of_getElem? (i := 36) rfl)) rfl
theorem ml_X9_44 : Cond.methodLink RX9 44 yX0_addHandler ∈ gw := gw_at 356 (by decide +kernel) rfl
theorem im_X0_addHandler : Cond.instanceMethod yX0_addHandler ∈ gw := gw_at 357 (by decide +kernel) rfl
theorem se_X0_addHandler : Cond.selects RX0 yX0_addHandler yX0_addHandler ∈ gw := gw_at 358 (by decide +kernel) rfl
theorem cd_X0_addHandler : Cond.code yX0_addHandler cX0_addHandler 5 (some .int) ∈ gw := gw_in (tb_2 (List.mem_of_getElem? (i := 40) rfl)) rfl
theorem ml_L_30 : Cond.methodLink RL 30 yX9_frame ∈ gw := gw_at 360 (by decide +kernel) rfl
theorem im_X9_frame : Cond.instanceMethod yX9_frame ∈ gw := gw_at 361 (by decide +kernel) rfl
theorem se_X9_frame : Cond.selects RX9 yX9_frame yX9_frame ∈ gw := gw_at 362 (by decide +kernel) rfl
theorem cd_X9_frame : Cond.code yX9_frame cX9_frame 5 (some .int) ∈ gw := gw_in (tb_2 (List.mem_of_getElem? (i := 44) rfl)) rfl
theorem ml_X9_50 : Cond.methodLink RX9 50 yX0_putFrame ∈ gw := gw_at 364 (by decide +kernel) rfl
theorem im_X0_putFrame : Cond.instanceMethod yX0_putFrame ∈ gw := gw_at 365 (by decide +kernel) rfl
theorem se_X0_putFrame : Cond.selects RX0 yX0_putFrame yX0_putFrame ∈ gw := gw_at 366 (by decide +kernel) rfl
theorem cd_X0_putFrame : Cond.code yX0_putFrame cX0_putFrame 3 none ∈ gw := gw_in (tb_2 (List.mem_of_getElem? (i := 48) rfl)) rfl
theorem ml_X0_55 : Cond.methodLink RX0 55 yX6_clear ∈ gw := gw_at 369 (by decide +kernel) rfl
theorem im_X6_clear : Cond.instanceMethod yX6_clear ∈ gw := gw_at 370 (by decide +kernel) rfl
theorem se_X6_clear : Cond.selects RX6 yX6_clear yX6_clear ∈ gw := gw_at 371 (by decide +kernel) rfl
theorem cd_X6_clear : Cond.code yX6_clear cX6_clear 3 none ∈ gw := gw_in (tb_2 (List.mem_of_getElem? (i := 53) rfl)) rfl
theorem ml_L_35 : Cond.methodLink RL 35 yX9_set ∈ gw := gw_at 373 (by decide +kernel) rfl
theorem im_X9_set : Cond.instanceMethod yX9_set ∈ gw := gw_at 374 (by decide +kernel) rfl
theorem se_X9_set : Cond.selects RX9 yX9_set yX9_set ∈ gw := gw_at 375 (by decide +kernel) rfl
theorem cd_X9_set : Cond.code yX9_set cX9_set 7 (some .int) ∈ gw := gw_in (tb_2 (List.mem_of_getElem? (i := 57) rfl)) rfl
theorem ml_X9_54 : Cond.methodLink RX9 54 yX0_frameOf ∈ gw := gw_at 377 (by decide +kernel) rfl
theorem im_X0_frameOf : Cond.instanceMethod yX0_frameOf ∈ gw := gw_at 378 (by decide +kernel) rfl
theorem se_X0_frameOf : Cond.selects RX0 yX0_frameOf yX0_frameOf ∈ gw := gw_at 379 (by decide +kernel) rfl
theorem cd_X0_frameOf : Cond.code yX0_frameOf cX0_frameOf 3 (some (.object "KindJudge$Places")) ∈ gw := gw_in (tb_2 (List.mem_of_getElem? (i := 61) rfl)) rfl
theorem ml_X9_58 : Cond.methodLink RX9 58 yX6_has ∈ gw := gw_at 381 (by decide +kernel) rfl
theorem im_X6_has : Cond.instanceMethod yX6_has ∈ gw := gw_at 382 (by decide +kernel) rfl
theorem se_X6_has : Cond.selects RX6 yX6_has yX6_has ∈ gw := gw_at 383 (by decide +kernel) rfl
theorem cd_X6_has : Cond.code yX6_has cX6_has 2 (some .boolean) ∈ gw := gw_in (tb_2 (List.mem_of_getElem? (i := 65) rfl)) rfl
theorem ml_X9_62 : Cond.methodLink RX9 62 yX3_isKind ∈ gw := gw_at 385 (by decide +kernel) rfl
theorem st_X3_isKind : Cond.static yX3_isKind ∈ gw := gw_at 386 (by decide +kernel) rfl
theorem cd_X3_isKind : Cond.code yX3_isKind cX3_isKind 1 (some .boolean) ∈ gw := gw_in (tb_2 (List.mem_of_getElem? (i := 68) rfl)) rfl
theorem ml_X3_15 : Cond.methodLink RX3 15 yX3_isObject ∈ gw := gw_at 388 (by decide +kernel) rfl
theorem st_X3_isObject : Cond.static yX3_isObject ∈ gw := gw_at 389 (by decide +kernel) rfl
theorem cd_X3_isObject : Cond.code yX3_isObject cX3_isObject 1 (some .boolean) ∈ gw := gw_in (tb_2 (List.mem_of_getElem? (i := 71) rfl)) rfl
theorem ml_X3_19 : Cond.methodLink RX3 19 yX3_isRow ∈ gw := gw_at 391 (by decide +kernel) rfl
theorem st_X3_isRow : Cond.static yX3_isRow ∈ gw := gw_at 392 (by decide +kernel) rfl
theorem cd_X3_isRow : Cond.code yX3_isRow cX3_isRow 1 (some .boolean) ∈ gw := gw_in (tb_2 (List.mem_of_getElem? (i := 74) rfl)) rfl
theorem ml_X3_22 : Cond.methodLink RX3 22 yX3_isUnmade ∈ gw := gw_at 394 (by decide +kernel) rfl
theorem st_X3_isUnmade : Cond.static yX3_isUnmade ∈ gw := gw_at 395 (by decide +kernel) rfl
theorem cd_X3_isUnmade : Cond.code yX3_isUnmade cX3_isUnmade 1 (some .boolean) ∈ gw := gw_in (tb_2 (List.mem_of_getElem? (i := 77) rfl)) rfl
theorem ml_X9_71 : Cond.methodLink RX9 71 yX6_exchange ∈ gw := gw_at 397 (by decide +kernel) rfl
theorem im_X6_exchange : Cond.instanceMethod yX6_exchange ∈ gw := gw_at 398 (by decide +kernel) rfl
theorem se_X6_exchange : Cond.selects RX6 yX6_exchange yX6_exchange ∈ gw := gw_at 399 (by decide +kernel) rfl
theorem cd_X6_exchange : Cond.code yX6_exchange cX6_exchange 4 (some .int) ∈ gw := gw_in (tb_2 (List.mem_of_getElem? (i := 81) rfl)) rfl
theorem ml_X6_29 : Cond.methodLink RX6 29 yX6_has ∈ gw := gw_at 401 (by decide +kernel) rfl
theorem ml_L_40 : Cond.methodLink RL 40 yX9_judge ∈ gw := gw_at 402 (by decide +kernel) rfl
theorem im_X9_judge : Cond.instanceMethod yX9_judge ∈ gw := gw_at 403 (by decide +kernel) rfl
theorem se_X9_judge : Cond.selects RX9 yX9_judge yX9_judge ∈ gw := gw_at 404 (by decide +kernel) rfl
theorem cd_X9_judge : Cond.code yX9_judge cX9_judge 4 (some .int) ∈ gw := gw_in (tb_2 (List.mem_of_getElem? (i := 86) rfl)) rfl
theorem ml_X9_75 : Cond.methodLink RX9 75 yX2_byFrames ∈ gw := gw_at 406 (by decide +kernel) rfl
theorem im_X2_byFrames : Cond.instanceMethod yX2_byFrames ∈ gw := gw_at 407 (by decide +kernel) rfl
theorem se_X2_byFrames : Cond.selects RX2 yX2_byFrames yX2_byFrames ∈ gw := gw_at 408 (by decide +kernel) rfl
theorem cd_X2_byFrames : Cond.code yX2_byFrames cX2_byFrames 7 (some .int) ∈ gw := gw_in (tb_2 (List.mem_of_getElem? (i := 90) rfl)) rfl
theorem ml_X2_50 : Cond.methodLink RX2 50 yX2_forget ∈ gw := gw_at 410 (by decide +kernel) rfl
theorem im_X2_forget : Cond.instanceMethod yX2_forget ∈ gw := gw_at 412 (by decide +kernel) rfl
theorem cd_X2_forget : Cond.code yX2_forget cX2_forget 3 none ∈ gw := gw_in (tb_2 (List.mem_of_getElem? (i := 94) rfl)) rfl
theorem ml_X2_60 : Cond.methodLink RX2 60 yX6_begin ∈ gw := gw_at 414 (by decide +kernel) rfl
theorem im_X6_begin : Cond.instanceMethod yX6_begin ∈ gw := gw_at 415 (by decide +kernel) rfl
theorem se_X6_begin : Cond.selects RX6 yX6_begin yX6_begin ∈ gw := gw_at 416 (by decide +kernel) rfl
theorem cd_X6_begin : Cond.code yX6_begin cX6_begin 3 none ∈ gw := gw_in (tb_2 (List.mem_of_getElem? (i := 98) rfl)) rfl
theorem ml_X6_19 : Cond.methodLink RX6 19 yX6_clear ∈ gw := gw_at 418 (by decide +kernel) rfl
theorem ml_X2_64 : Cond.methodLink RX2 64 yX0_frameOf ∈ gw := gw_at 419 (by decide +kernel) rfl
theorem ml_X2_68 : Cond.methodLink RX2 68 yX6_goesTo ∈ gw := gw_at 420 (by decide +kernel) rfl
theorem im_X6_goesTo : Cond.instanceMethod yX6_goesTo ∈ gw := gw_at 421 (by decide +kernel) rfl
theorem se_X6_goesTo : Cond.selects RX6 yX6_goesTo yX6_goesTo ∈ gw := gw_at 422 (by decide +kernel) rfl
theorem cd_X6_goesTo : Cond.code yX6_goesTo cX6_goesTo 3 (some .boolean) ∈ gw := gw_in (tb_2 (List.mem_of_getElem? (i := 104) rfl)) rfl
theorem ml_X6_40 : Cond.methodLink RX6 40 yX3_goesTo ∈ gw := gw_at 424 (by decide +kernel) rfl
theorem st_X3_goesTo : Cond.static yX3_goesTo ∈ gw := gw_at 425 (by decide +kernel) rfl
theorem cd_X3_goesTo : Cond.code yX3_goesTo cX3_goesTo 2 (some .boolean) ∈ gw := gw_in (tb_2 (List.mem_of_getElem? (i := 107) rfl)) rfl
theorem ml_X3_29 : Cond.methodLink RX3 29 yX3_isReference ∈ gw := gw_at 427 (by decide +kernel) rfl
theorem st_X3_isReference : Cond.static yX3_isReference ∈ gw := gw_at 428 (by decide +kernel) rfl
theorem cd_X3_isReference : Cond.code yX3_isReference cX3_isReference 1 (some .boolean) ∈ gw := gw_in (tb_2 (List.mem_of_getElem? (i := 110) rfl)) rfl
theorem ml_X3_32 : Cond.methodLink RX3 32 yX3_isUnder ∈ gw := gw_at 430 (by decide +kernel) rfl
theorem st_X3_isUnder : Cond.static yX3_isUnder ∈ gw := gw_at 431 (by decide +kernel) rfl
theorem cd_X3_isUnder : Cond.code yX3_isUnder cX3_isUnder 2 (some .boolean) ∈ gw := gw_in (tb_2 (List.mem_of_getElem? (i := 113) rfl)) rfl
theorem fl_X3_25 : Cond.fieldLink RX3 25 "KindJudge$Kinds" "UNDER" "[I" ∈ gw := gw_at 433 (by decide +kernel) rfl
theorem ml_X2_72 : Cond.methodLink RX2 72 yX6_copyFrom ∈ gw := gw_at 435 (by decide +kernel) rfl
theorem im_X6_copyFrom : Cond.instanceMethod yX6_copyFrom ∈ gw := gw_at 436 (by decide +kernel) rfl
theorem se_X6_copyFrom : Cond.selects RX6 yX6_copyFrom yX6_copyFrom ∈ gw := gw_at 437 (by decide +kernel) rfl
theorem cd_X6_copyFrom : Cond.code yX6_copyFrom cX6_copyFrom 2 none ∈ gw := gw_in (tb_2 (List.mem_of_getElem? (i := 119) rfl)) rfl
theorem ml_X6_23 : Cond.methodLink RX6 23 arraycopyName ∈ gw := gw_at 439 (by decide +kernel) rfl
theorem st_arraycopyName : Cond.static arraycopyName ∈ gw := gw_at 440 (by decide +kernel) rfl
theorem nat_copy : Cond.native arraycopyName ∈ gw := gw_at 441 (by decide +kernel) rfl
end
section
theorem ml_X2_76 : Cond.methodLink RX2 76 yX8_does ∈ gw := gw_at 442 (by decide +kernel) rfl
theorem im_X8_does : Cond.instanceMethod yX8_does ∈ gw := gw_at 443 (by decide +kernel) rfl
theorem se_X8_does : Cond.selects RX8 yX8_does yX8_does ∈ gw := gw_at 444 (by decide +kernel) rfl
theorem cd_X8_does : Cond.code yX8_does cX8_does 7 (some .boolean) ∈ gw := gw_in (tb_2 (List.mem_of_getElem? (i := 126) rfl)) rfl
theorem ml_X8_16 : Cond.methodLink RX8 16 yX0_hasInstruction ∈ gw := gw_at 446 (by decide +kernel) rfl
theorem im_X0_hasInstruction : Cond.instanceMethod yX0_hasInstruction ∈ gw := gw_at 447 (by decide +kernel) rfl
theorem se_X0_hasInstruction : Cond.selects RX0 yX0_hasInstruction yX0_hasInstruction ∈ gw := gw_at 448 (by decide +kernel) rfl
theorem cd_X0_hasInstruction : Cond.code yX0_hasInstruction cX0_hasInstruction 3 (some .boolean) ∈ gw := gw_in (tb_2 (List.mem_of_getElem? (i := 130) rfl)) rfl
theorem ml_X8_40 : Cond.methodLink RX8 40 yX8_moves ∈ gw := gw_at 450 (by decide +kernel) rfl
theorem im_X8_moves : Cond.instanceMethod yX8_moves ∈ gw := gw_at 452 (by decide +kernel) rfl
theorem cd_X8_moves : Cond.code yX8_moves cX8_moves 5 (some .boolean) ∈ gw := gw_in (tb_2 (List.mem_of_getElem? (i := 134) rfl)) rfl
theorem ml_X8_74 : Cond.methodLink RX8 74 yX6_push ∈ gw := gw_at 454 (by decide +kernel) rfl
theorem im_X6_push : Cond.instanceMethod yX6_push ∈ gw := gw_at 455 (by decide +kernel) rfl
theorem se_X6_push : Cond.selects RX6 yX6_push yX6_push ∈ gw := gw_at 456 (by decide +kernel) rfl
theorem cd_X6_push : Cond.code yX6_push cX6_push 2 (some .boolean) ∈ gw := gw_in (tb_2 (List.mem_of_getElem? (i := 138) rfl)) rfl
theorem ml_X8_77 : Cond.methodLink RX8 77 yX6_pushLong ∈ gw := gw_at 458 (by decide +kernel) rfl
theorem im_X6_pushLong : Cond.instanceMethod yX6_pushLong ∈ gw := gw_at 459 (by decide +kernel) rfl
theorem se_X6_pushLong : Cond.selects RX6 yX6_pushLong yX6_pushLong ∈ gw := gw_at 460 (by decide +kernel) rfl
theorem cd_X6_pushLong : Cond.code yX6_pushLong cX6_pushLong 1 (some .boolean) ∈ gw := gw_in (tb_2 (List.mem_of_getElem? (i := 142) rfl)) rfl
theorem ml_X6_37 : Cond.methodLink RX6 37 yX6_push ∈ gw := gw_at 462 (by decide +kernel) rfl
theorem kl_X8_81 : Cond.constantLong RX8 81 (8) ∈ gw := gw_at 463 (by decide +kernel) rfl
theorem ml_X8_86 : Cond.methodLink RX8 86 yX3_isOnePlace ∈ gw := gw_at 464 (by decide +kernel) rfl
theorem st_X3_isOnePlace : Cond.static yX3_isOnePlace ∈ gw := gw_at 465 (by decide +kernel) rfl
theorem cd_X3_isOnePlace : Cond.code yX3_isOnePlace cX3_isOnePlace 1 (some .boolean) ∈ gw := gw_in (tb_2 (List.mem_of_getElem? (i := 147) rfl)) rfl
theorem ml_X8_89 : Cond.methodLink RX8 89 yX8_stores ∈ gw := gw_at 467 (by decide +kernel) rfl
theorem im_X8_stores : Cond.instanceMethod yX8_stores ∈ gw := gw_at 469 (by decide +kernel) rfl
theorem cd_X8_stores : Cond.code yX8_stores cX8_stores 3 (some .boolean) ∈ gw := gw_in (tb_2 (List.mem_of_getElem? (i := 151) rfl)) rfl
theorem ml_X8_98 : Cond.methodLink RX8 98 yX6_popOne ∈ gw := gw_at 471 (by decide +kernel) rfl
theorem im_X6_popOne : Cond.instanceMethod yX6_popOne ∈ gw := gw_at 472 (by decide +kernel) rfl
theorem se_X6_popOne : Cond.selects RX6 yX6_popOne yX6_popOne ∈ gw := gw_at 473 (by decide +kernel) rfl
theorem cd_X6_popOne : Cond.code yX6_popOne cX6_popOne 2 (some .int) ∈ gw := gw_in (tb_2 (List.mem_of_getElem? (i := 155) rfl)) rfl
theorem ml_X6_48 : Cond.methodLink RX6 48 yX6_top ∈ gw := gw_at 475 (by decide +kernel) rfl
theorem im_X6_top : Cond.instanceMethod yX6_top ∈ gw := gw_at 476 (by decide +kernel) rfl
theorem se_X6_top : Cond.selects RX6 yX6_top yX6_top ∈ gw := gw_at 477 (by decide +kernel) rfl
theorem cd_X6_top : Cond.code yX6_top cX6_top 1 (some .int) ∈ gw := gw_in (tb_2 (List.mem_of_getElem? (i := 159) rfl)) rfl
theorem ml_X6_52 : Cond.methodLink RX6 52 yX3_isOnePlace ∈ gw := gw_at 479 (by decide +kernel) rfl
theorem ml_X8_102 : Cond.methodLink RX8 102 yX6_write ∈ gw := gw_at 480 (by decide +kernel) rfl
theorem im_X6_write : Cond.instanceMethod yX6_write ∈ gw := gw_at 481 (by decide +kernel) rfl
theorem se_X6_write : Cond.selects RX6 yX6_write yX6_write ∈ gw := gw_at 482 (by decide +kernel) rfl
theorem cd_X6_write : Cond.code yX6_write cX6_write 5 none ∈ gw := gw_in (tb_2 (List.mem_of_getElem? (i := 164) rfl)) rfl
theorem ml_X8_92 : Cond.methodLink RX8 92 yX8_holdsLong ∈ gw := gw_at 484 (by decide +kernel) rfl
theorem im_X8_holdsLong : Cond.instanceMethod yX8_holdsLong ∈ gw := gw_at 486 (by decide +kernel) rfl
theorem cd_X8_holdsLong : Cond.code yX8_holdsLong cX8_holdsLong 2 (some .boolean) ∈ gw := gw_in (tb_2 (List.mem_of_getElem? (i := 168) rfl)) rfl
theorem ml_X8_95 : Cond.methodLink RX8 95 yX8_storesLong ∈ gw := gw_at 488 (by decide +kernel) rfl
theorem im_X8_storesLong : Cond.instanceMethod yX8_storesLong ∈ gw := gw_at 490 (by decide +kernel) rfl
theorem cd_X8_storesLong : Cond.code yX8_storesLong cX8_storesLong 2 (some .boolean) ∈ gw := gw_in (tb_2 (List.mem_of_getElem? (i := 172) rfl)) rfl
theorem ml_X8_106 : Cond.methodLink RX8 106 yX6_popLong ∈ gw := gw_at 492 (by decide +kernel) rfl
theorem im_X6_popLong : Cond.instanceMethod yX6_popLong ∈ gw := gw_at 493 (by decide +kernel) rfl
theorem se_X6_popLong : Cond.selects RX6 yX6_popLong yX6_popLong ∈ gw := gw_at 494 (by decide +kernel) rfl
theorem cd_X6_popLong : Cond.code yX6_popLong cX6_popLong 2 (some .boolean) ∈ gw := gw_in (tb_2 (List.mem_of_getElem? (i := 176) rfl)) rfl
theorem ml_X8_109 : Cond.methodLink RX8 109 yX6_writeLong ∈ gw := gw_at 496 (by decide +kernel) rfl
theorem im_X6_writeLong : Cond.instanceMethod yX6_writeLong ∈ gw := gw_at 497 (by decide +kernel) rfl
theorem se_X6_writeLong : Cond.selects RX6 yX6_writeLong yX6_writeLong ∈ gw := gw_at 498 (by decide +kernel) rfl
theorem cd_X6_writeLong : Cond.code yX6_writeLong cX6_writeLong 2 none ∈ gw := gw_in (tb_2 (List.mem_of_getElem? (i := 180) rfl)) rfl
theorem ml_X6_61 : Cond.methodLink RX6 61 yX6_write ∈ gw := gw_at 500 (by decide +kernel) rfl
theorem ml_X8_44 : Cond.methodLink RX8 44 yX8_reckons ∈ gw := gw_at 501 (by decide +kernel) rfl
theorem im_X8_reckons : Cond.instanceMethod yX8_reckons ∈ gw := gw_at 503 (by decide +kernel) rfl
theorem cd_X8_reckons : Cond.code yX8_reckons cX8_reckons 5 (some .boolean) ∈ gw := gw_in (tb_2 (List.mem_of_getElem? (i := 185) rfl)) rfl
theorem kl_X8_113 : Cond.constantLong RX8 113 (4) ∈ gw := gw_at 505 (by decide +kernel) rfl
theorem ml_X8_115 : Cond.methodLink RX8 115 yX6_pop ∈ gw := gw_at 506 (by decide +kernel) rfl
theorem im_X6_pop : Cond.instanceMethod yX6_pop ∈ gw := gw_at 507 (by decide +kernel) rfl
theorem se_X6_pop : Cond.selects RX6 yX6_pop yX6_pop ∈ gw := gw_at 508 (by decide +kernel) rfl
theorem cd_X6_pop : Cond.code yX6_pop cX6_pop 2 (some .boolean) ∈ gw := gw_in (tb_2 (List.mem_of_getElem? (i := 190) rfl)) rfl
theorem ml_X8_47 : Cond.methodLink RX8 47 yX8_begins ∈ gw := gw_at 510 (by decide +kernel) rfl
theorem im_X8_begins : Cond.instanceMethod yX8_begins ∈ gw := gw_at 512 (by decide +kernel) rfl
theorem cd_X8_begins : Cond.code yX8_begins cX8_begins 5 (some .boolean) ∈ gw := gw_in (tb_2 (List.mem_of_getElem? (i := 194) rfl)) rfl
theorem ml_X8_118 : Cond.methodLink RX8 118 yX3_isClass ∈ gw := gw_at 514 (by decide +kernel) rfl
theorem st_X3_isClass : Cond.static yX3_isClass ∈ gw := gw_at 515 (by decide +kernel) rfl
theorem cd_X3_isClass : Cond.code yX3_isClass cX3_isClass 2 (some .boolean) ∈ gw := gw_in (tb_2 (List.mem_of_getElem? (i := 197) rfl)) rfl
theorem kl_X3_9 : Cond.constantLong RX3 9 (5) ∈ gw := gw_at 517 (by decide +kernel) rfl
theorem ml_X8_121 : Cond.methodLink RX8 121 yX6_stackHolds ∈ gw := gw_at 518 (by decide +kernel) rfl
theorem im_X6_stackHolds : Cond.instanceMethod yX6_stackHolds ∈ gw := gw_at 519 (by decide +kernel) rfl
theorem se_X6_stackHolds : Cond.selects RX6 yX6_stackHolds yX6_stackHolds ∈ gw := gw_at 520 (by decide +kernel) rfl
theorem cd_X6_stackHolds : Cond.code yX6_stackHolds cX6_stackHolds 3 (some .boolean) ∈ gw := gw_in (tb_2 (List.mem_of_getElem? (i := 202) rfl)) rfl
theorem ml_X8_124 : Cond.methodLink RX8 124 yX6_replace ∈ gw := gw_at 522 (by decide +kernel) rfl
theorem im_X6_replace : Cond.instanceMethod yX6_replace ∈ gw := gw_at 523 (by decide +kernel) rfl
theorem se_X6_replace : Cond.selects RX6 yX6_replace yX6_replace ∈ gw := gw_at 524 (by decide +kernel) rfl
theorem cd_X6_replace : Cond.code yX6_replace cX6_replace 4 none ∈ gw := gw_in (tb_2 (List.mem_of_getElem? (i := 206) rfl)) rfl
theorem ml_X8_50 : Cond.methodLink RX8 50 yX8_finishes ∈ gw := gw_at 526 (by decide +kernel) rfl
theorem im_X8_finishes : Cond.instanceMethod yX8_finishes ∈ gw := gw_at 528 (by decide +kernel) rfl
theorem cd_X8_finishes : Cond.code yX8_finishes cX8_finishes 6 (some .boolean) ∈ gw := gw_in (tb_2 (List.mem_of_getElem? (i := 210) rfl)) rfl
theorem ml_X8_127 : Cond.methodLink RX8 127 yX3_isUnmade ∈ gw := gw_at 530 (by decide +kernel) rfl
theorem ml_X8_54 : Cond.methodLink RX8 54 yX8_usesArray ∈ gw := gw_at 531 (by decide +kernel) rfl
theorem im_X8_usesArray : Cond.instanceMethod yX8_usesArray ∈ gw := gw_at 533 (by decide +kernel) rfl
theorem cd_X8_usesArray : Cond.code yX8_usesArray cX8_usesArray 4 (some .boolean) ∈ gw := gw_in (tb_2 (List.mem_of_getElem? (i := 215) rfl)) rfl
theorem ml_X8_130 : Cond.methodLink RX8 130 yX6_popRow ∈ gw := gw_at 535 (by decide +kernel) rfl
theorem im_X6_popRow : Cond.instanceMethod yX6_popRow ∈ gw := gw_at 536 (by decide +kernel) rfl
theorem se_X6_popRow : Cond.selects RX6 yX6_popRow yX6_popRow ∈ gw := gw_at 537 (by decide +kernel) rfl
theorem cd_X6_popRow : Cond.code yX6_popRow cX6_popRow 2 (some .int) ∈ gw := gw_in (tb_2 (List.mem_of_getElem? (i := 219) rfl)) rfl
theorem ml_X6_55 : Cond.methodLink RX6 55 yX3_isRow ∈ gw := gw_at 539 (by decide +kernel) rfl
theorem ml_X6_58 : Cond.methodLink RX6 58 yX6_popOne ∈ gw := gw_at 540 (by decide +kernel) rfl
theorem ml_X8_133 : Cond.methodLink RX8 133 yX8_takes ∈ gw := gw_at 541 (by decide +kernel) rfl
theorem im_X8_takes : Cond.instanceMethod yX8_takes ∈ gw := gw_at 543 (by decide +kernel) rfl
theorem cd_X8_takes : Cond.code yX8_takes cX8_takes 2 (some .boolean) ∈ gw := gw_in (tb_2 (List.mem_of_getElem? (i := 225) rfl)) rfl
theorem ml_X8_136 : Cond.methodLink RX8 136 yX3_isRow ∈ gw := gw_at 545 (by decide +kernel) rfl
theorem ml_X8_57 : Cond.methodLink RX8 57 yX8_usesObject ∈ gw := gw_at 546 (by decide +kernel) rfl
theorem im_X8_usesObject : Cond.instanceMethod yX8_usesObject ∈ gw := gw_at 548 (by decide +kernel) rfl
theorem cd_X8_usesObject : Cond.code yX8_usesObject cX8_usesObject 4 (some .boolean) ∈ gw := gw_in (tb_2 (List.mem_of_getElem? (i := 230) rfl)) rfl
theorem ml_X8_139 : Cond.methodLink RX8 139 yX3_isClassOrFace ∈ gw := gw_at 550 (by decide +kernel) rfl
theorem st_X3_isClassOrFace : Cond.static yX3_isClassOrFace ∈ gw := gw_at 551 (by decide +kernel) rfl
theorem cd_X3_isClassOrFace : Cond.code yX3_isClassOrFace cX3_isClassOrFace 2 (some .boolean) ∈ gw := gw_in (tb_2 (List.mem_of_getElem? (i := 233) rfl)) rfl
theorem kl_X3_11 : Cond.constantLong RX3 11 (7) ∈ gw := gw_at 553 (by decide +kernel) rfl
theorem ml_X8_60 : Cond.methodLink RX8 60 yX8_turns ∈ gw := gw_at 554 (by decide +kernel) rfl
theorem im_X8_turns : Cond.instanceMethod yX8_turns ∈ gw := gw_at 556 (by decide +kernel) rfl
theorem cd_X8_turns : Cond.code yX8_turns cX8_turns 4 (some .boolean) ∈ gw := gw_in (tb_2 (List.mem_of_getElem? (i := 238) rfl)) rfl
theorem ml_X8_64 : Cond.methodLink RX8 64 yX8_calls ∈ gw := gw_at 558 (by decide +kernel) rfl
theorem im_X8_calls : Cond.instanceMethod yX8_calls ∈ gw := gw_at 560 (by decide +kernel) rfl
theorem cd_X8_calls : Cond.code yX8_calls cX8_calls 7 (some .boolean) ∈ gw := gw_in (tb_3 (List.mem_of_getElem? (i := 2) rfl)) rfl
theorem ml_X8_145 : Cond.methodLink RX8 145 yX7_at ∈ gw := gw_at 562 (by decide +kernel) rfl
theorem ml_X8_68 : Cond.methodLink RX8 68 yX8_goesElsewhere ∈ gw := gw_at 563 (by decide +kernel) rfl
theorem im_X8_goesElsewhere : Cond.instanceMethod yX8_goesElsewhere ∈ gw := gw_at 565 (by decide +kernel) rfl
theorem cd_X8_goesElsewhere : Cond.code yX8_goesElsewhere cX8_goesElsewhere 5 (some .boolean) ∈ gw := gw_in (tb_3 (List.mem_of_getElem? (i := 7) rfl)) rfl
theorem ml_X2_80 : Cond.methodLink RX2 80 yX2_leadsToFrame ∈ gw := gw_at 567 (by decide +kernel) rfl
theorem im_X2_leadsToFrame : Cond.instanceMethod yX2_leadsToFrame ∈ gw := gw_at 569 (by decide +kernel) rfl
theorem cd_X2_leadsToFrame : Cond.code yX2_leadsToFrame cX2_leadsToFrame 3 (some .boolean) ∈ gw := gw_in (tb_3 (List.mem_of_getElem? (i := 11) rfl)) rfl
theorem ml_X2_84 : Cond.methodLink RX2 84 yX2_handlersFit ∈ gw := gw_at 571 (by decide +kernel) rfl
theorem im_X2_handlersFit : Cond.instanceMethod yX2_handlersFit ∈ gw := gw_at 573 (by decide +kernel) rfl
theorem cd_X2_handlersFit : Cond.code yX2_handlersFit cX2_handlersFit 5 (some .boolean) ∈ gw := gw_in (tb_3 (List.mem_of_getElem? (i := 15) rfl)) rfl
theorem ml_X2_95 : Cond.methodLink RX2 95 yX6_becomeCaught ∈ gw := gw_at 575 (by decide +kernel) rfl
theorem im_X6_becomeCaught : Cond.instanceMethod yX6_becomeCaught ∈ gw := gw_at 576 (by decide +kernel) rfl
theorem se_X6_becomeCaught : Cond.selects RX6 yX6_becomeCaught yX6_becomeCaught ∈ gw := gw_at 577 (by decide +kernel) rfl
theorem cd_X6_becomeCaught : Cond.code yX6_becomeCaught cX6_becomeCaught 2 none ∈ gw := gw_in (tb_3 (List.mem_of_getElem? (i := 19) rfl)) rfl
theorem ml_X6_33 : Cond.methodLink RX6 33 yX6_copyFrom ∈ gw := gw_at 579 (by decide +kernel) rfl
theorem ml_X2_101 : Cond.methodLink RX2 101 yX0_covers ∈ gw := gw_at 580 (by decide +kernel) rfl
theorem im_X0_covers : Cond.instanceMethod yX0_covers ∈ gw := gw_at 581 (by decide +kernel) rfl
theorem se_X0_covers : Cond.selects RX0 yX0_covers yX0_covers ∈ gw := gw_at 582 (by decide +kernel) rfl
theorem cd_X0_covers : Cond.code yX0_covers cX0_covers 3 (some .boolean) ∈ gw := gw_in (tb_3 (List.mem_of_getElem? (i := 24) rfl)) rfl
theorem ml_X2_108 : Cond.methodLink RX2 108 yX0_hasInstruction ∈ gw := gw_at 584 (by decide +kernel) rfl
theorem ml_L_44 : Cond.methodLink RL 44 yX9_join ∈ gw := gw_at 585 (by decide +kernel) rfl
theorem im_X9_join : Cond.instanceMethod yX9_join ∈ gw := gw_at 586 (by decide +kernel) rfl
theorem se_X9_join : Cond.selects RX9 yX9_join yX9_join ∈ gw := gw_at 587 (by decide +kernel) rfl
theorem cd_X9_join : Cond.code yX9_join cX9_join 4 (some .int) ∈ gw := gw_in (tb_3 (List.mem_of_getElem? (i := 29) rfl)) rfl
theorem ml_X9_79 : Cond.methodLink RX9 79 yX2_byJoining ∈ gw := gw_at 589 (by decide +kernel) rfl
theorem im_X2_byJoining : Cond.instanceMethod yX2_byJoining ∈ gw := gw_at 590 (by decide +kernel) rfl
theorem se_X2_byJoining : Cond.selects RX2 yX2_byJoining yX2_byJoining ∈ gw := gw_at 591 (by decide +kernel) rfl
theorem cd_X2_byJoining : Cond.code yX2_byJoining cX2_byJoining 4 (some .int) ∈ gw := gw_in (tb_3 (List.mem_of_getElem? (i := 33) rfl)) rfl
theorem ml_X2_115 : Cond.methodLink RX2 115 yX2_arrives ∈ gw := gw_at 593 (by decide +kernel) rfl
theorem im_X2_arrives : Cond.instanceMethod yX2_arrives ∈ gw := gw_at 595 (by decide +kernel) rfl
theorem cd_X2_arrives : Cond.code yX2_arrives cX2_arrives 5 (some .boolean) ∈ gw := gw_in (tb_3 (List.mem_of_getElem? (i := 37) rfl)) rfl
theorem ml_X2_126 : Cond.methodLink RX2 126 yX6_takeIn ∈ gw := gw_at 597 (by decide +kernel) rfl
theorem im_X6_takeIn : Cond.instanceMethod yX6_takeIn ∈ gw := gw_at 598 (by decide +kernel) rfl
theorem se_X6_takeIn : Cond.selects RX6 yX6_takeIn yX6_takeIn ∈ gw := gw_at 599 (by decide +kernel) rfl
theorem cd_X6_takeIn : Cond.code yX6_takeIn cX6_takeIn 5 (some .boolean) ∈ gw := gw_in (tb_3 (List.mem_of_getElem? (i := 41) rfl)) rfl
theorem ml_X6_44 : Cond.methodLink RX6 44 yX3_joinOf ∈ gw := gw_at 601 (by decide +kernel) rfl
theorem st_X3_joinOf : Cond.static yX3_joinOf ∈ gw := gw_at 602 (by decide +kernel) rfl
theorem cd_X3_joinOf : Cond.code yX3_joinOf cX3_joinOf 2 (some .int) ∈ gw := gw_in (tb_3 (List.mem_of_getElem? (i := 44) rfl)) rfl
theorem ml_X3_36 : Cond.methodLink RX3 36 yX3_sharedClass ∈ gw := gw_at 604 (by decide +kernel) rfl
theorem st_X3_sharedClass : Cond.static yX3_sharedClass ∈ gw := gw_at 605 (by decide +kernel) rfl
theorem cd_X3_sharedClass : Cond.code yX3_sharedClass cX3_sharedClass 4 (some .int) ∈ gw := gw_in (tb_3 (List.mem_of_getElem? (i := 47) rfl)) rfl
theorem fl_X3_40 : Cond.fieldLink RX3 40 "KindJudge$Kinds" "ABOVE" "[I" ∈ gw := gw_at 607 (by decide +kernel) rfl
theorem ki_X2_122 : Cond.constant RX2 122 (100000) ∈ gw := gw_at 609 (by decide +kernel) rfl
theorem ml_X2_123 : Cond.methodLink RX2 123 yX2_handsOn ∈ gw := gw_at 610 (by decide +kernel) rfl
theorem im_X2_handsOn : Cond.instanceMethod yX2_handsOn ∈ gw := gw_at 612 (by decide +kernel) rfl
theorem cd_X2_handsOn : Cond.code yX2_handsOn cX2_handsOn 5 (some .boolean) ∈ gw := gw_in (tb_3 (List.mem_of_getElem? (i := 54) rfl)) rfl
theorem ml_L_48 : Cond.methodLink RL 48 yX9_kind ∈ gw := gw_at 614 (by decide +kernel) rfl
theorem im_X9_kind : Cond.instanceMethod yX9_kind ∈ gw := gw_at 615 (by decide +kernel) rfl
theorem se_X9_kind : Cond.selects RX9 yX9_kind yX9_kind ∈ gw := gw_at 616 (by decide +kernel) rfl
theorem cd_X9_kind : Cond.code yX9_kind cX9_kind 3 (some .int) ∈ gw := gw_in (tb_3 (List.mem_of_getElem? (i := 58) rfl)) rfl
theorem ml_X9_82 : Cond.methodLink RX9 82 yX2_kindAhead ∈ gw := gw_at 618 (by decide +kernel) rfl
theorem im_X2_kindAhead : Cond.instanceMethod yX2_kindAhead ∈ gw := gw_at 619 (by decide +kernel) rfl
theorem se_X2_kindAhead : Cond.selects RX2 yX2_kindAhead yX2_kindAhead ∈ gw := gw_at 620 (by decide +kernel) rfl
theorem cd_X2_kindAhead : Cond.code yX2_kindAhead cX2_kindAhead 3 (some .int) ∈ gw := gw_in (tb_3 (List.mem_of_getElem? (i := 62) rfl)) rfl
theorem ml_X2_35 : Cond.methodLink RX2 35 yX6_has ∈ gw := gw_at 622 (by decide +kernel) rfl
theorem ki_X2_39 : Cond.constant RX2 39 (-99999999) ∈ gw := gw_at 623 (by decide +kernel) rfl
theorem ml_L_53 : Cond.methodLink RL 53 yX9_rounds ∈ gw := gw_at 624 (by decide +kernel) rfl
theorem im_X9_rounds : Cond.instanceMethod yX9_rounds ∈ gw := gw_at 625 (by decide +kernel) rfl
theorem se_X9_rounds : Cond.selects RX9 yX9_rounds yX9_rounds ∈ gw := gw_at 626 (by decide +kernel) rfl
theorem cd_X9_rounds : Cond.code yX9_rounds cX9_rounds 1 (some .int) ∈ gw := gw_in (tb_3 (List.mem_of_getElem? (i := 68) rfl)) rfl
theorem ml_L_58 : Cond.methodLink RL 58 yX9_kinds ∈ gw := gw_at 628 (by decide +kernel) rfl
theorem im_X9_kinds : Cond.instanceMethod yX9_kinds ∈ gw := gw_at 629 (by decide +kernel) rfl
theorem se_X9_kinds : Cond.selects RX9 yX9_kinds yX9_kinds ∈ gw := gw_at 630 (by decide +kernel) rfl
theorem cd_X9_kinds : Cond.code yX9_kinds cX9_kinds 4 (some .int) ∈ gw := gw_in (tb_3 (List.mem_of_getElem? (i := 72) rfl)) rfl
theorem ml_X9_89 : Cond.methodLink RX9 89 yX3_goesTo ∈ gw := gw_at 632 (by decide +kernel) rfl
theorem ml_X9_93 : Cond.methodLink RX9 93 yX3_joinOf ∈ gw := gw_at 633 (by decide +kernel) rfl
theorem ml_L_63 : Cond.methodLink RL 63 yX9_run ∈ gw := gw_at 634 (by decide +kernel) rfl
theorem im_X9_run : Cond.instanceMethod yX9_run ∈ gw := gw_at 635 (by decide +kernel) rfl
theorem se_X9_run : Cond.selects RX9 yX9_run yX9_run ∈ gw := gw_at 636 (by decide +kernel) rfl
theorem cd_X9_run : Cond.code yX9_run cX9_run 7 (some .int) ∈ gw := gw_in (tb_3 (List.mem_of_getElem? (i := 78) rfl)) rfl
theorem ml_X9_96 : Cond.methodLink RX9 96 yX7_isReady ∈ gw := gw_at 638 (by decide +kernel) rfl
theorem im_X7_isReady : Cond.instanceMethod yX7_isReady ∈ gw := gw_at 639 (by decide +kernel) rfl
theorem se_X7_isReady : Cond.selects RX7 yX7_isReady yX7_isReady ∈ gw := gw_at 640 (by decide +kernel) rfl
theorem cd_X7_isReady : Cond.code yX7_isReady cX7_isReady 5 (some .boolean) ∈ gw := gw_in (tb_3 (List.mem_of_getElem? (i := 82) rfl)) rfl
theorem ml_X7_28 : Cond.methodLink RX7 28 yX0_called ∈ gw := gw_at 642 (by decide +kernel) rfl
theorem im_X0_called : Cond.instanceMethod yX0_called ∈ gw := gw_at 643 (by decide +kernel) rfl
theorem se_X0_called : Cond.selects RX0 yX0_called yX0_called ∈ gw := gw_at 644 (by decide +kernel) rfl
theorem cd_X0_called : Cond.code yX0_called cX0_called 3 (some .int) ∈ gw := gw_in (tb_3 (List.mem_of_getElem? (i := 86) rfl)) rfl
theorem ml_X9_99 : Cond.methodLink RX9 99 yX4_prepare ∈ gw := gw_at 646 (by decide +kernel) rfl
theorem im_X4_prepare : Cond.instanceMethod yX4_prepare ∈ gw := gw_at 647 (by decide +kernel) rfl
theorem se_X4_prepare : Cond.selects RX4 yX4_prepare yX4_prepare ∈ gw := gw_at 648 (by decide +kernel) rfl
theorem cd_X4_prepare : Cond.code yX4_prepare cX4_prepare 2 none ∈ gw := gw_in (tb_3 (List.mem_of_getElem? (i := 90) rfl)) rfl
theorem ml_X4_53 : Cond.methodLink RX4 53 yX4_enter ∈ gw := gw_at 650 (by decide +kernel) rfl
theorem im_X4_enter : Cond.instanceMethod yX4_enter ∈ gw := gw_at 652 (by decide +kernel) rfl
theorem cd_X4_enter : Cond.code yX4_enter cX4_enter 2 none ∈ gw := gw_in (tb_3 (List.mem_of_getElem? (i := 94) rfl)) rfl
theorem ml_X9_103 : Cond.methodLink RX9 103 yX4_giveParams ∈ gw := gw_at 654 (by decide +kernel) rfl
theorem im_X4_giveParams : Cond.instanceMethod yX4_giveParams ∈ gw := gw_at 655 (by decide +kernel) rfl
theorem se_X4_giveParams : Cond.selects RX4 yX4_giveParams yX4_giveParams ∈ gw := gw_at 656 (by decide +kernel) rfl
theorem cd_X4_giveParams : Cond.code yX4_giveParams cX4_giveParams 5 none ∈ gw := gw_in (tb_3 (List.mem_of_getElem? (i := 98) rfl)) rfl
theorem ml_X9_107 : Cond.methodLink RX9 107 yX4_goOn ∈ gw := gw_at 658 (by decide +kernel) rfl
theorem im_X4_goOn : Cond.instanceMethod yX4_goOn ∈ gw := gw_at 659 (by decide +kernel) rfl
theorem se_X4_goOn : Cond.selects RX4 yX4_goOn yX4_goOn ∈ gw := gw_at 660 (by decide +kernel) rfl
theorem cd_X4_goOn : Cond.code yX4_goOn cX4_goOn 2 (some .int) ∈ gw := gw_in (tb_3 (List.mem_of_getElem? (i := 102) rfl)) rfl
theorem ml_X4_72 : Cond.methodLink RX4 72 yX4_doNext ∈ gw := gw_at 662 (by decide +kernel) rfl
theorem im_X4_doNext : Cond.instanceMethod yX4_doNext ∈ gw := gw_at 664 (by decide +kernel) rfl
theorem cd_X4_doNext : Cond.code yX4_doNext cX4_doNext 5 none ∈ gw := gw_in (tb_3 (List.mem_of_getElem? (i := 106) rfl)) rfl
theorem ml_X4_76 : Cond.methodLink RX4 76 yX0_hasInstruction ∈ gw := gw_at 666 (by decide +kernel) rfl
theorem ml_X4_86 : Cond.methodLink RX4 86 yX4_does ∈ gw := gw_at 667 (by decide +kernel) rfl
theorem im_X4_does : Cond.instanceMethod yX4_does ∈ gw := gw_at 669 (by decide +kernel) rfl
theorem cd_X4_does : Cond.code yX4_does cX4_does 5 (some .int) ∈ gw := gw_in (tb_3 (List.mem_of_getElem? (i := 111) rfl)) rfl
theorem ml_X4_122 : Cond.methodLink RX4 122 yX4_moves ∈ gw := gw_at 671 (by decide +kernel) rfl
theorem im_X4_moves : Cond.instanceMethod yX4_moves ∈ gw := gw_at 673 (by decide +kernel) rfl
theorem cd_X4_moves : Cond.code yX4_moves cX4_moves 5 (some .int) ∈ gw := gw_in (tb_3 (List.mem_of_getElem? (i := 115) rfl)) rfl
theorem ml_X4_112 : Cond.methodLink RX4 112 yX4_push ∈ gw := gw_at 675 (by decide +kernel) rfl
theorem im_X4_push : Cond.instanceMethod yX4_push ∈ gw := gw_at 677 (by decide +kernel) rfl
theorem cd_X4_push : Cond.code yX4_push cX4_push 3 none ∈ gw := gw_in (tb_3 (List.mem_of_getElem? (i := 119) rfl)) rfl
theorem ml_X4_148 : Cond.methodLink RX4 148 yX4_pushLong ∈ gw := gw_at 679 (by decide +kernel) rfl
theorem im_X4_pushLong : Cond.instanceMethod yX4_pushLong ∈ gw := gw_at 681 (by decide +kernel) rfl
theorem cd_X4_pushLong : Cond.code yX4_pushLong cX4_pushLong 3 none ∈ gw := gw_in (tb_3 (List.mem_of_getElem? (i := 123) rfl)) rfl
theorem kl_X4_151 : Cond.constantLong RX4 151 (8) ∈ gw := gw_at 683 (by decide +kernel) rfl
theorem ml_X4_116 : Cond.methodLink RX4 116 yX4_pop ∈ gw := gw_at 684 (by decide +kernel) rfl
theorem im_X4_pop : Cond.instanceMethod yX4_pop ∈ gw := gw_at 686 (by decide +kernel) rfl
theorem cd_X4_pop : Cond.code yX4_pop cX4_pop 1 (some .long) ∈ gw := gw_in (tb_3 (List.mem_of_getElem? (i := 128) rfl)) rfl
theorem ml_X4_153 : Cond.methodLink RX4 153 yX4_popLong ∈ gw := gw_at 688 (by decide +kernel) rfl
theorem im_X4_popLong : Cond.instanceMethod yX4_popLong ∈ gw := gw_at 690 (by decide +kernel) rfl
theorem cd_X4_popLong : Cond.code yX4_popLong cX4_popLong 1 (some .long) ∈ gw := gw_in (tb_3 (List.mem_of_getElem? (i := 132) rfl)) rfl
theorem ml_X4_126 : Cond.methodLink RX4 126 yX4_reckons ∈ gw := gw_at 692 (by decide +kernel) rfl
theorem im_X4_reckons : Cond.instanceMethod yX4_reckons ∈ gw := gw_at 694 (by decide +kernel) rfl
theorem cd_X4_reckons : Cond.code yX4_reckons cX4_reckons 8 (some .int) ∈ gw := gw_in (tb_3 (List.mem_of_getElem? (i := 136) rfl)) rfl
theorem ml_X4_156 : Cond.methodLink RX4 156 yX4_relatesInts ∈ gw := gw_at 696 (by decide +kernel) rfl
theorem im_X4_relatesInts : Cond.instanceMethod yX4_relatesInts ∈ gw := gw_at 698 (by decide +kernel) rfl
theorem cd_X4_relatesInts : Cond.code yX4_relatesInts cX4_relatesInts 4 (some .int) ∈ gw := gw_in (tb_3 (List.mem_of_getElem? (i := 140) rfl)) rfl
theorem ml_X4_162 : Cond.methodLink RX4 162 yX4_popInt ∈ gw := gw_at 700 (by decide +kernel) rfl
theorem im_X4_popInt : Cond.instanceMethod yX4_popInt ∈ gw := gw_at 702 (by decide +kernel) rfl
theorem cd_X4_popInt : Cond.code yX4_popInt cX4_popInt 1 (some .int) ∈ gw := gw_in (tb_3 (List.mem_of_getElem? (i := 144) rfl)) rfl
theorem ml_X4_166 : Cond.methodLink RX4 166 yX4_related ∈ gw := gw_at 704 (by decide +kernel) rfl
theorem st_X4_related : Cond.static yX4_related ∈ gw := gw_at 705 (by decide +kernel) rfl
theorem cd_X4_related : Cond.code yX4_related cX4_related 5 (some .long) ∈ gw := gw_in (tb_3 (List.mem_of_getElem? (i := 147) rfl)) rfl
theorem ml_X4_159 : Cond.methodLink RX4 159 yX4_relatesLongs ∈ gw := gw_at 707 (by decide +kernel) rfl
theorem im_X4_relatesLongs : Cond.instanceMethod yX4_relatesLongs ∈ gw := gw_at 709 (by decide +kernel) rfl
theorem cd_X4_relatesLongs : Cond.code yX4_relatesLongs cX4_relatesLongs 6 (some .int) ∈ gw := gw_in (tb_3 (List.mem_of_getElem? (i := 151) rfl)) rfl
theorem ml_X4_129 : Cond.methodLink RX4 129 yX4_makes ∈ gw := gw_at 711 (by decide +kernel) rfl
theorem im_X4_makes : Cond.instanceMethod yX4_makes ∈ gw := gw_at 713 (by decide +kernel) rfl
theorem cd_X4_makes : Cond.code yX4_makes cX4_makes 4 (some .int) ∈ gw := gw_in (tb_3 (List.mem_of_getElem? (i := 155) rfl)) rfl
theorem ml_X4_172 : Cond.methodLink RX4 172 yX4_pushNew ∈ gw := gw_at 715 (by decide +kernel) rfl
theorem im_X4_pushNew : Cond.instanceMethod yX4_pushNew ∈ gw := gw_at 717 (by decide +kernel) rfl
theorem cd_X4_pushNew : Cond.code yX4_pushNew cX4_pushNew 4 (some .int) ∈ gw := gw_in (tb_3 (List.mem_of_getElem? (i := 159) rfl)) rfl
theorem ml_X4_175 : Cond.methodLink RX4 175 yX1_make ∈ gw := gw_at 719 (by decide +kernel) rfl
theorem im_X1_make : Cond.instanceMethod yX1_make ∈ gw := gw_at 720 (by decide +kernel) rfl
theorem se_X1_make : Cond.selects RX1 yX1_make yX1_make ∈ gw := gw_at 721 (by decide +kernel) rfl
theorem cd_X1_make : Cond.code yX1_make cX1_make 4 (some .int) ∈ gw := gw_in (tb_3 (List.mem_of_getElem? (i := 163) rfl)) rfl
theorem ml_X4_100 : Cond.methodLink RX4 100 yX4_end ∈ gw := gw_at 723 (by decide +kernel) rfl
end
section
theorem im_X4_end : Cond.instanceMethod yX4_end ∈ gw := gw_at 725 (by decide +kernel) rfl
theorem cd_X4_end : Cond.code yX4_end cX4_end 3 none ∈ gw := gw_in (tb_3 (List.mem_of_getElem? (i := 167) rfl)) rfl
theorem ml_X4_132 : Cond.methodLink RX4 132 yX4_usesArray ∈ gw := gw_at 727 (by decide +kernel) rfl
theorem im_X4_usesArray : Cond.instanceMethod yX4_usesArray ∈ gw := gw_at 729 (by decide +kernel) rfl
theorem cd_X4_usesArray : Cond.code yX4_usesArray cX4_usesArray 6 (some .int) ∈ gw := gw_in (tb_3 (List.mem_of_getElem? (i := 171) rfl)) rfl
theorem ml_X4_178 : Cond.methodLink RX4 178 yX1_isNull ∈ gw := gw_at 731 (by decide +kernel) rfl
theorem im_X1_isNull : Cond.instanceMethod yX1_isNull ∈ gw := gw_at 732 (by decide +kernel) rfl
theorem se_X1_isNull : Cond.selects RX1 yX1_isNull yX1_isNull ∈ gw := gw_at 733 (by decide +kernel) rfl
theorem cd_X1_isNull : Cond.code yX1_isNull cX1_isNull 2 (some .boolean) ∈ gw := gw_in (tb_3 (List.mem_of_getElem? (i := 175) rfl)) rfl
theorem ml_X4_182 : Cond.methodLink RX4 182 yX1_length ∈ gw := gw_at 735 (by decide +kernel) rfl
theorem im_X1_length : Cond.instanceMethod yX1_length ∈ gw := gw_at 736 (by decide +kernel) rfl
theorem se_X1_length : Cond.selects RX1 yX1_length yX1_length ∈ gw := gw_at 737 (by decide +kernel) rfl
theorem cd_X1_length : Cond.code yX1_length cX1_length 2 (some .int) ∈ gw := gw_in (tb_3 (List.mem_of_getElem? (i := 179) rfl)) rfl
theorem ml_X1_26 : Cond.methodLink RX1 26 yX1_isNull ∈ gw := gw_at 739 (by decide +kernel) rfl
theorem ml_X4_185 : Cond.methodLink RX4 185 yX1_hasItem ∈ gw := gw_at 740 (by decide +kernel) rfl
theorem im_X1_hasItem : Cond.instanceMethod yX1_hasItem ∈ gw := gw_at 741 (by decide +kernel) rfl
theorem se_X1_hasItem : Cond.selects RX1 yX1_hasItem yX1_hasItem ∈ gw := gw_at 742 (by decide +kernel) rfl
theorem cd_X1_hasItem : Cond.code yX1_hasItem cX1_hasItem 3 (some .boolean) ∈ gw := gw_in (tb_3 (List.mem_of_getElem? (i := 184) rfl)) rfl
theorem ml_X4_189 : Cond.methodLink RX4 189 yX1_canHold ∈ gw := gw_at 744 (by decide +kernel) rfl
theorem im_X1_canHold : Cond.instanceMethod yX1_canHold ∈ gw := gw_at 745 (by decide +kernel) rfl
theorem se_X1_canHold : Cond.selects RX1 yX1_canHold yX1_canHold ∈ gw := gw_at 746 (by decide +kernel) rfl
theorem cd_X1_canHold : Cond.code yX1_canHold cX1_canHold 3 (some .boolean) ∈ gw := gw_in (tb_3 (List.mem_of_getElem? (i := 188) rfl)) rfl
theorem ml_X1_42 : Cond.methodLink RX1 42 yX1_isOf ∈ gw := gw_at 748 (by decide +kernel) rfl
theorem im_X1_isOf : Cond.instanceMethod yX1_isOf ∈ gw := gw_at 749 (by decide +kernel) rfl
theorem se_X1_isOf : Cond.selects RX1 yX1_isOf yX1_isOf ∈ gw := gw_at 750 (by decide +kernel) rfl
theorem cd_X1_isOf : Cond.code yX1_isOf cX1_isOf 3 (some .boolean) ∈ gw := gw_in (tb_3 (List.mem_of_getElem? (i := 192) rfl)) rfl
theorem ml_X1_34 : Cond.methodLink RX1 34 yX3_isObject ∈ gw := gw_at 752 (by decide +kernel) rfl
theorem ml_X1_39 : Cond.methodLink RX1 39 yX3_isUnder ∈ gw := gw_at 753 (by decide +kernel) rfl
theorem ml_X4_192 : Cond.methodLink RX4 192 yX1_putItem ∈ gw := gw_at 754 (by decide +kernel) rfl
theorem im_X1_putItem : Cond.instanceMethod yX1_putItem ∈ gw := gw_at 755 (by decide +kernel) rfl
theorem se_X1_putItem : Cond.selects RX1 yX1_putItem yX1_putItem ∈ gw := gw_at 756 (by decide +kernel) rfl
theorem cd_X1_putItem : Cond.code yX1_putItem cX1_putItem 4 none ∈ gw := gw_in (tb_3 (List.mem_of_getElem? (i := 198) rfl)) rfl
theorem ml_X1_30 : Cond.methodLink RX1 30 yX1_hasItem ∈ gw := gw_at 758 (by decide +kernel) rfl
theorem ml_X4_196 : Cond.methodLink RX4 196 yX1_item ∈ gw := gw_at 759 (by decide +kernel) rfl
theorem im_X1_item : Cond.instanceMethod yX1_item ∈ gw := gw_at 760 (by decide +kernel) rfl
theorem se_X1_item : Cond.selects RX1 yX1_item yX1_item ∈ gw := gw_at 761 (by decide +kernel) rfl
theorem cd_X1_item : Cond.code yX1_item cX1_item 3 (some .int) ∈ gw := gw_in (tb_3 (List.mem_of_getElem? (i := 203) rfl)) rfl
theorem ml_X4_136 : Cond.methodLink RX4 136 yX4_asks ∈ gw := gw_at 763 (by decide +kernel) rfl
theorem im_X4_asks : Cond.instanceMethod yX4_asks ∈ gw := gw_at 765 (by decide +kernel) rfl
theorem cd_X4_asks : Cond.code yX4_asks cX4_asks 5 (some .int) ∈ gw := gw_in (tb_3 (List.mem_of_getElem? (i := 207) rfl)) rfl
theorem ml_X4_199 : Cond.methodLink RX4 199 yX1_isOf ∈ gw := gw_at 767 (by decide +kernel) rfl
theorem ml_X4_139 : Cond.methodLink RX4 139 yX4_usesObject ∈ gw := gw_at 768 (by decide +kernel) rfl
theorem im_X4_usesObject : Cond.instanceMethod yX4_usesObject ∈ gw := gw_at 770 (by decide +kernel) rfl
theorem cd_X4_usesObject : Cond.code yX4_usesObject cX4_usesObject 4 (some .int) ∈ gw := gw_in (tb_3 (List.mem_of_getElem? (i := 212) rfl)) rfl
theorem ml_X4_202 : Cond.methodLink RX4 202 yX1_field ∈ gw := gw_at 772 (by decide +kernel) rfl
theorem im_X1_field : Cond.instanceMethod yX1_field ∈ gw := gw_at 773 (by decide +kernel) rfl
theorem se_X1_field : Cond.selects RX1 yX1_field yX1_field ∈ gw := gw_at 774 (by decide +kernel) rfl
theorem cd_X1_field : Cond.code yX1_field cX1_field 2 (some .int) ∈ gw := gw_in (tb_3 (List.mem_of_getElem? (i := 216) rfl)) rfl
theorem ml_X4_205 : Cond.methodLink RX4 205 yX1_putField ∈ gw := gw_at 776 (by decide +kernel) rfl
theorem im_X1_putField : Cond.instanceMethod yX1_putField ∈ gw := gw_at 777 (by decide +kernel) rfl
theorem se_X1_putField : Cond.selects RX1 yX1_putField yX1_putField ∈ gw := gw_at 778 (by decide +kernel) rfl
theorem cd_X1_putField : Cond.code yX1_putField cX1_putField 3 none ∈ gw := gw_in (tb_3 (List.mem_of_getElem? (i := 220) rfl)) rfl
theorem ml_X4_208 : Cond.methodLink RX4 208 yX1_worth ∈ gw := gw_at 780 (by decide +kernel) rfl
theorem im_X1_worth : Cond.instanceMethod yX1_worth ∈ gw := gw_at 781 (by decide +kernel) rfl
theorem se_X1_worth : Cond.selects RX1 yX1_worth yX1_worth ∈ gw := gw_at 782 (by decide +kernel) rfl
theorem cd_X1_worth : Cond.code yX1_worth cX1_worth 5 (some .int) ∈ gw := gw_in (tb_3 (List.mem_of_getElem? (i := 224) rfl)) rfl
theorem ml_X4_142 : Cond.methodLink RX4 142 yX4_turns ∈ gw := gw_at 784 (by decide +kernel) rfl
theorem im_X4_turns : Cond.instanceMethod yX4_turns ∈ gw := gw_at 786 (by decide +kernel) rfl
theorem cd_X4_turns : Cond.code yX4_turns cX4_turns 6 (some .int) ∈ gw := gw_in (tb_3 (List.mem_of_getElem? (i := 228) rfl)) rfl
theorem ml_X4_145 : Cond.methodLink RX4 145 yX4_leads ∈ gw := gw_at 788 (by decide +kernel) rfl
theorem im_X4_leads : Cond.instanceMethod yX4_leads ∈ gw := gw_at 790 (by decide +kernel) rfl
theorem cd_X4_leads : Cond.code yX4_leads cX4_leads 5 (some .int) ∈ gw := gw_in (tb_3 (List.mem_of_getElem? (i := 232) rfl)) rfl
theorem ml_X4_211 : Cond.methodLink RX4 211 yX4_jumpsIf ∈ gw := gw_at 792 (by decide +kernel) rfl
theorem im_X4_jumpsIf : Cond.instanceMethod yX4_jumpsIf ∈ gw := gw_at 794 (by decide +kernel) rfl
theorem cd_X4_jumpsIf : Cond.code yX4_jumpsIf cX4_jumpsIf 4 (some .int) ∈ gw := gw_in (tb_3 (List.mem_of_getElem? (i := 236) rfl)) rfl
theorem ml_X4_215 : Cond.methodLink RX4 215 yX4_returns ∈ gw := gw_at 796 (by decide +kernel) rfl
theorem im_X4_returns : Cond.instanceMethod yX4_returns ∈ gw := gw_at 798 (by decide +kernel) rfl
theorem cd_X4_returns : Cond.code yX4_returns cX4_returns 2 (some .int) ∈ gw := gw_in (tb_4 (List.mem_of_getElem? (i := 0) rfl)) rfl
theorem ml_X4_218 : Cond.methodLink RX4 218 yX7_at ∈ gw := gw_at 800 (by decide +kernel) rfl
theorem ml_X4_222 : Cond.methodLink RX4 222 yX4_calls ∈ gw := gw_at 801 (by decide +kernel) rfl
theorem im_X4_calls : Cond.instanceMethod yX4_calls ∈ gw := gw_at 803 (by decide +kernel) rfl
theorem cd_X4_calls : Cond.code yX4_calls cX4_calls 4 (some .int) ∈ gw := gw_in (tb_4 (List.mem_of_getElem? (i := 5) rfl)) rfl
theorem ml_X4_90 : Cond.methodLink RX4 90 yX4_arises ∈ gw := gw_at 805 (by decide +kernel) rfl
theorem im_X4_arises : Cond.instanceMethod yX4_arises ∈ gw := gw_at 807 (by decide +kernel) rfl
theorem cd_X4_arises : Cond.code yX4_arises cX4_arises 5 none ∈ gw := gw_in (tb_4 (List.mem_of_getElem? (i := 9) rfl)) rfl
theorem ml_X4_104 : Cond.methodLink RX4 104 yX4_catches ∈ gw := gw_at 809 (by decide +kernel) rfl
theorem im_X4_catches : Cond.instanceMethod yX4_catches ∈ gw := gw_at 811 (by decide +kernel) rfl
theorem cd_X4_catches : Cond.code yX4_catches cX4_catches 5 (some .boolean) ∈ gw := gw_in (tb_4 (List.mem_of_getElem? (i := 13) rfl)) rfl
theorem ml_X4_108 : Cond.methodLink RX4 108 yX0_handlerFor ∈ gw := gw_at 813 (by decide +kernel) rfl
theorem im_X0_handlerFor : Cond.instanceMethod yX0_handlerFor ∈ gw := gw_at 814 (by decide +kernel) rfl
theorem se_X0_handlerFor : Cond.selects RX0 yX0_handlerFor yX0_handlerFor ∈ gw := gw_at 815 (by decide +kernel) rfl
theorem cd_X0_handlerFor : Cond.code yX0_handlerFor cX0_handlerFor 4 (some .int) ∈ gw := gw_in (tb_4 (List.mem_of_getElem? (i := 17) rfl)) rfl
theorem ml_X0_62 : Cond.methodLink RX0 62 yX0_covers ∈ gw := gw_at 817 (by decide +kernel) rfl
theorem ml_L_67 : Cond.methodLink RL 67 yX9_answer ∈ gw := gw_at 818 (by decide +kernel) rfl
theorem im_X9_answer : Cond.instanceMethod yX9_answer ∈ gw := gw_at 819 (by decide +kernel) rfl
theorem se_X9_answer : Cond.selects RX9 yX9_answer yX9_answer ∈ gw := gw_at 820 (by decide +kernel) rfl
theorem cd_X9_answer : Cond.code yX9_answer cX9_answer 1 (some .int) ∈ gw := gw_in (tb_4 (List.mem_of_getElem? (i := 22) rfl)) rfl
theorem ml_L_71 : Cond.methodLink RL 71 yX9_told ∈ gw := gw_at 822 (by decide +kernel) rfl
theorem im_X9_told : Cond.instanceMethod yX9_told ∈ gw := gw_at 823 (by decide +kernel) rfl
theorem se_X9_told : Cond.selects RX9 yX9_told yX9_told ∈ gw := gw_at 824 (by decide +kernel) rfl
theorem cd_X9_told : Cond.code yX9_told cX9_told 2 (some .int) ∈ gw := gw_in (tb_4 (List.mem_of_getElem? (i := 26) rfl)) rfl
theorem ml_L_75 : Cond.methodLink RL 75 yX9_count ∈ gw := gw_at 826 (by decide +kernel) rfl
theorem im_X9_count : Cond.instanceMethod yX9_count ∈ gw := gw_at 827 (by decide +kernel) rfl
theorem se_X9_count : Cond.selects RX9 yX9_count yX9_count ∈ gw := gw_at 828 (by decide +kernel) rfl
theorem cd_X9_count : Cond.code yX9_count cX9_count 4 (some .int) ∈ gw := gw_in (tb_4 (List.mem_of_getElem? (i := 30) rfl)) rfl
theorem cl_L_10 : Cond.classLink RL 10 RX10 ∈ gw := gw_at 830 (by decide +kernel) rfl
theorem ins_X10 : Cond.instantiable RX10 35 ∈ gw := gw_at 831 (by decide +kernel) rfl
theorem ml_L_12 : Cond.methodLink RL 12 yX10_init ∈ gw := gw_at 832 (by decide +kernel) rfl
theorem im_X10_init : Cond.instanceMethod yX10_init ∈ gw := gw_at 833 (by decide +kernel) rfl
theorem cd_X10_init : Cond.code yX10_init cX10_init 2 none ∈ gw := gw_in (tb_4 (List.mem_of_getElem? (i := 35) rfl)) rfl
theorem ml_X10_1 : Cond.methodLink RX10 1 objectInit ∈ gw := gw_at 835 (by decide +kernel) rfl
theorem fl_X10_75 : Cond.fieldLink RX10 75 "KindJudgeModel" "methods" "I" ∈ gw := gw_at 836 (by decide +kernel) rfl
theorem fl_X10_7 : Cond.fieldLink RX10 7 "KindJudgeModel" "params" "[I" ∈ gw := gw_at 837 (by decide +kernel) rfl
theorem fl_X10_13 : Cond.fieldLink RX10 13 "KindJudgeModel" "opMany" "[I" ∈ gw := gw_at 838 (by decide +kernel) rfl
theorem fl_X10_16 : Cond.fieldLink RX10 16 "KindJudgeModel" "ops" "[I" ∈ gw := gw_at 839 (by decide +kernel) rfl
theorem fl_X10_19 : Cond.fieldLink RX10 19 "KindJudgeModel" "as" "[J" ∈ gw := gw_at 840 (by decide +kernel) rfl
theorem fl_X10_23 : Cond.fieldLink RX10 23 "KindJudgeModel" "handlerMany" "[I" ∈ gw := gw_at 841 (by decide +kernel) rfl
theorem fl_X10_26 : Cond.fieldLink RX10 26 "KindJudgeModel" "handlers" "[I" ∈ gw := gw_at 842 (by decide +kernel) rfl
theorem fl_X10_29 : Cond.fieldLink RX10 29 "KindJudgeModel" "frameDepth" "[I" ∈ gw := gw_at 843 (by decide +kernel) rfl
theorem fl_X10_32 : Cond.fieldLink RX10 32 "KindJudgeModel" "frames" "[I" ∈ gw := gw_at 844 (by decide +kernel) rfl
theorem fl_X10_35 : Cond.fieldLink RX10 35 "KindJudgeModel" "isRight" "[Z" ∈ gw := gw_at 845 (by decide +kernel) rfl
theorem fl_X10_39 : Cond.fieldLink RX10 39 "KindJudgeModel" "seenDepth" "[I" ∈ gw := gw_at 846 (by decide +kernel) rfl
theorem fl_X10_42 : Cond.fieldLink RX10 42 "KindJudgeModel" "seen" "[I" ∈ gw := gw_at 847 (by decide +kernel) rfl
theorem fl_X10_225 : Cond.fieldLink RX10 225 "KindJudgeModel" "rounds" "I" ∈ gw := gw_at 848 (by decide +kernel) rfl
theorem fl_X10_45 : Cond.fieldLink RX10 45 "KindJudgeModel" "hand" "[I" ∈ gw := gw_at 849 (by decide +kernel) rfl
theorem fl_X10_145 : Cond.fieldLink RX10 145 "KindJudgeModel" "depth" "I" ∈ gw := gw_at 850 (by decide +kernel) rfl
theorem fl_X10_212 : Cond.fieldLink RX10 212 "KindJudgeModel" "hasChanged" "Z" ∈ gw := gw_at 851 (by decide +kernel) rfl
theorem fl_X10_48 : Cond.fieldLink RX10 48 "KindJudgeModel" "came" "[I" ∈ gw := gw_at 852 (by decide +kernel) rfl
theorem fl_X10_51 : Cond.fieldLink RX10 51 "KindJudgeModel" "places" "[J" ∈ gw := gw_at 853 (by decide +kernel) rfl
theorem fl_X10_54 : Cond.fieldLink RX10 54 "KindJudgeModel" "heights" "[I" ∈ gw := gw_at 854 (by decide +kernel) rfl
theorem fl_X10_57 : Cond.fieldLink RX10 57 "KindJudgeModel" "methodAt" "[I" ∈ gw := gw_at 855 (by decide +kernel) rfl
theorem fl_X10_60 : Cond.fieldLink RX10 60 "KindJudgeModel" "pcs" "[I" ∈ gw := gw_at 856 (by decide +kernel) rfl
theorem fl_X10_235 : Cond.fieldLink RX10 235 "KindJudgeModel" "frame" "I" ∈ gw := gw_at 857 (by decide +kernel) rfl
theorem fl_X10_248 : Cond.fieldLink RX10 248 "KindJudgeModel" "made" "I" ∈ gw := gw_at 858 (by decide +kernel) rfl
theorem fl_X10_63 : Cond.fieldLink RX10 63 "KindJudgeModel" "sorts" "[I" ∈ gw := gw_at 859 (by decide +kernel) rfl
theorem fl_X10_66 : Cond.fieldLink RX10 66 "KindJudgeModel" "sizes" "[I" ∈ gw := gw_at 860 (by decide +kernel) rfl
theorem fl_X10_69 : Cond.fieldLink RX10 69 "KindJudgeModel" "fields" "[I" ∈ gw := gw_at 861 (by decide +kernel) rfl
theorem fl_X10_72 : Cond.fieldLink RX10 72 "KindJudgeModel" "things" "[J" ∈ gw := gw_at 862 (by decide +kernel) rfl
theorem fl_X10_263 : Cond.fieldLink RX10 263 "KindJudgeModel" "answer" "I" ∈ gw := gw_at 863 (by decide +kernel) rfl
theorem fl_X10_251 : Cond.fieldLink RX10 251 "KindJudgeModel" "done" "I" ∈ gw := gw_at 864 (by decide +kernel) rfl
theorem fl_X10_254 : Cond.fieldLink RX10 254 "KindJudgeModel" "failures" "I" ∈ gw := gw_at 865 (by decide +kernel) rfl
theorem fl_X10_257 : Cond.fieldLink RX10 257 "KindJudgeModel" "failedIn" "I" ∈ gw := gw_at 866 (by decide +kernel) rfl
theorem fl_X10_260 : Cond.fieldLink RX10 260 "KindJudgeModel" "failedAt" "I" ∈ gw := gw_at 867 (by decide +kernel) rfl
theorem fl_X10_245 : Cond.fieldLink RX10 245 "KindJudgeModel" "hasRun" "Z" ∈ gw := gw_at 868 (by decide +kernel) rfl
theorem fl_X10_273 : Cond.fieldLink RX10 273 "KindJudgeModel" "failure" "I" ∈ gw := gw_at 869 (by decide +kernel) rfl
theorem ac_boolean : Cond.arrayClass .boolean ∈ gw := gw_at 941 (by decide +kernel) rfl
theorem ml_L_62 : Cond.methodLink RL 62 yX10_kinds ∈ gw := gw_at 942 (by decide +kernel) rfl
theorem im_X10_kinds : Cond.instanceMethod yX10_kinds ∈ gw := gw_at 943 (by decide +kernel) rfl
theorem se_X10_kinds : Cond.selects RX10 yX10_kinds yX10_kinds ∈ gw := gw_at 944 (by decide +kernel) rfl
theorem cd_X10_kinds : Cond.code yX10_kinds cX10_kinds 4 (some .int) ∈ gw := gw_in (tb_4 (List.mem_of_getElem? (i := 146) rfl)) rfl
theorem ml_X10_119 : Cond.methodLink RX10 119 yX10_isKind ∈ gw := gw_at 946 (by decide +kernel) rfl
theorem st_X10_isKind : Cond.static yX10_isKind ∈ gw := gw_at 947 (by decide +kernel) rfl
theorem cd_X10_isKind : Cond.code yX10_isKind cX10_isKind 1 (some .boolean) ∈ gw := gw_in (tb_4 (List.mem_of_getElem? (i := 149) rfl)) rfl
theorem kl_X10_102 : Cond.constantLong RX10 102 (5) ∈ gw := gw_at 949 (by decide +kernel) rfl
theorem ml_X10_79 : Cond.methodLink RX10 79 yX10_isIn ∈ gw := gw_at 950 (by decide +kernel) rfl
theorem st_X10_isIn : Cond.static yX10_isIn ∈ gw := gw_at 951 (by decide +kernel) rfl
theorem cd_X10_isIn : Cond.code yX10_isIn cX10_isIn 6 (some .boolean) ∈ gw := gw_in (tb_4 (List.mem_of_getElem? (i := 153) rfl)) rfl
theorem ml_X10_95 : Cond.methodLink RX10 95 yX10_isObject ∈ gw := gw_at 953 (by decide +kernel) rfl
theorem st_X10_isObject : Cond.static yX10_isObject ∈ gw := gw_at 954 (by decide +kernel) rfl
theorem cd_X10_isObject : Cond.code yX10_isObject cX10_isObject 1 (some .boolean) ∈ gw := gw_in (tb_4 (List.mem_of_getElem? (i := 156) rfl)) rfl
theorem kl_X10_87 : Cond.constantLong RX10 87 (10) ∈ gw := gw_at 956 (by decide +kernel) rfl
theorem kl_X10_89 : Cond.constantLong RX10 89 (17) ∈ gw := gw_at 957 (by decide +kernel) rfl
theorem ml_X10_99 : Cond.methodLink RX10 99 yX10_isRow ∈ gw := gw_at 958 (by decide +kernel) rfl
theorem st_X10_isRow : Cond.static yX10_isRow ∈ gw := gw_at 959 (by decide +kernel) rfl
theorem cd_X10_isRow : Cond.code yX10_isRow cX10_isRow 1 (some .boolean) ∈ gw := gw_in (tb_4 (List.mem_of_getElem? (i := 161) rfl)) rfl
theorem kl_X10_91 : Cond.constantLong RX10 91 (21) ∈ gw := gw_at 961 (by decide +kernel) rfl
theorem kl_X10_93 : Cond.constantLong RX10 93 (25) ∈ gw := gw_at 962 (by decide +kernel) rfl
theorem kl_X10_104 : Cond.constantLong RX10 104 (100) ∈ gw := gw_at 963 (by decide +kernel) rfl
theorem kl_X10_106 : Cond.constantLong RX10 106 (139) ∈ gw := gw_at 964 (by decide +kernel) rfl
theorem ml_X10_122 : Cond.methodLink RX10 122 yX10_joined ∈ gw := gw_at 965 (by decide +kernel) rfl
theorem st_X10_joined : Cond.static yX10_joined ∈ gw := gw_at 966 (by decide +kernel) rfl
theorem cd_X10_joined : Cond.code yX10_joined cX10_joined 2 (some .int) ∈ gw := gw_in (tb_4 (List.mem_of_getElem? (i := 168) rfl)) rfl
theorem ml_X10_108 : Cond.methodLink RX10 108 yX10_isThing ∈ gw := gw_at 968 (by decide +kernel) rfl
theorem st_X10_isThing : Cond.static yX10_isThing ∈ gw := gw_at 969 (by decide +kernel) rfl
theorem cd_X10_isThing : Cond.code yX10_isThing cX10_isThing 1 (some .boolean) ∈ gw := gw_in (tb_4 (List.mem_of_getElem? (i := 171) rfl)) rfl
theorem ml_X10_115 : Cond.methodLink RX10 115 yX10_common ∈ gw := gw_at 971 (by decide +kernel) rfl
theorem st_X10_common : Cond.static yX10_common ∈ gw := gw_at 972 (by decide +kernel) rfl
theorem cd_X10_common : Cond.code yX10_common cX10_common 3 (some .int) ∈ gw := gw_in (tb_4 (List.mem_of_getElem? (i := 174) rfl)) rfl
theorem ml_X10_111 : Cond.methodLink RX10 111 yX10_isUnder ∈ gw := gw_at 974 (by decide +kernel) rfl
theorem st_X10_isUnder : Cond.static yX10_isUnder ∈ gw := gw_at 975 (by decide +kernel) rfl
theorem cd_X10_isUnder : Cond.code yX10_isUnder cX10_isUnder 3 (some .boolean) ∈ gw := gw_in (tb_4 (List.mem_of_getElem? (i := 177) rfl)) rfl
theorem ml_X10_83 : Cond.methodLink RX10 83 yX10_above ∈ gw := gw_at 977 (by decide +kernel) rfl
theorem st_X10_above : Cond.static yX10_above ∈ gw := gw_at 978 (by decide +kernel) rfl
theorem cd_X10_above : Cond.code yX10_above cX10_above 1 (some .int) ∈ gw := gw_in (tb_4 (List.mem_of_getElem? (i := 180) rfl)) rfl
theorem ml_X10_125 : Cond.methodLink RX10 125 yX10_goes ∈ gw := gw_at 980 (by decide +kernel) rfl
theorem st_X10_goes : Cond.static yX10_goes ∈ gw := gw_at 981 (by decide +kernel) rfl
theorem cd_X10_goes : Cond.code yX10_goes cX10_goes 2 (some .boolean) ∈ gw := gw_in (tb_4 (List.mem_of_getElem? (i := 183) rfl)) rfl
theorem ml_L_17 : Cond.methodLink RL 17 yX10_method ∈ gw := gw_at 983 (by decide +kernel) rfl
theorem im_X10_method : Cond.instanceMethod yX10_method ∈ gw := gw_at 984 (by decide +kernel) rfl
theorem se_X10_method : Cond.selects RX10 yX10_method yX10_method ∈ gw := gw_at 985 (by decide +kernel) rfl
theorem cd_X10_method : Cond.code yX10_method cX10_method 3 (some .int) ∈ gw := gw_in (tb_4 (List.mem_of_getElem? (i := 187) rfl)) rfl
theorem kl_X10_128 : Cond.constantLong RX10 128 (4) ∈ gw := gw_at 987 (by decide +kernel) rfl
theorem ml_L_24 : Cond.methodLink RL 24 yX10_op ∈ gw := gw_at 988 (by decide +kernel) rfl
theorem im_X10_op : Cond.instanceMethod yX10_op ∈ gw := gw_at 989 (by decide +kernel) rfl
theorem se_X10_op : Cond.selects RX10 yX10_op yX10_op ∈ gw := gw_at 990 (by decide +kernel) rfl
theorem cd_X10_op : Cond.code yX10_op cX10_op 5 (some .int) ∈ gw := gw_in (tb_4 (List.mem_of_getElem? (i := 192) rfl)) rfl
theorem ml_X10_130 : Cond.methodLink RX10 130 yX10_isMethod ∈ gw := gw_at 992 (by decide +kernel) rfl
theorem im_X10_isMethod : Cond.instanceMethod yX10_isMethod ∈ gw := gw_at 994 (by decide +kernel) rfl
theorem cd_X10_isMethod : Cond.code yX10_isMethod cX10_isMethod 2 (some .boolean) ∈ gw := gw_in (tb_4 (List.mem_of_getElem? (i := 196) rfl)) rfl
theorem ml_X10_133 : Cond.methodLink RX10 133 yX10_changed ∈ gw := gw_at 996 (by decide +kernel) rfl
theorem im_X10_changed : Cond.instanceMethod yX10_changed ∈ gw := gw_at 998 (by decide +kernel) rfl
theorem cd_X10_changed : Cond.code yX10_changed cX10_changed 2 none ∈ gw := gw_in (tb_4 (List.mem_of_getElem? (i := 200) rfl)) rfl
theorem ml_L_29 : Cond.methodLink RL 29 yX10_handler ∈ gw := gw_at 1000 (by decide +kernel) rfl
theorem im_X10_handler : Cond.instanceMethod yX10_handler ∈ gw := gw_at 1001 (by decide +kernel) rfl
theorem se_X10_handler : Cond.selects RX10 yX10_handler yX10_handler ∈ gw := gw_at 1002 (by decide +kernel) rfl
theorem cd_X10_handler : Cond.code yX10_handler cX10_handler 7 (some .int) ∈ gw := gw_in (tb_4 (List.mem_of_getElem? (i := 204) rfl)) rfl
theorem kl_X10_137 : Cond.constantLong RX10 137 (39) ∈ gw := gw_at 1004 (by decide +kernel) rfl
theorem kl_X10_139 : Cond.constantLong RX10 139 (7) ∈ gw := gw_at 1005 (by decide +kernel) rfl
theorem ml_L_34 : Cond.methodLink RL 34 yX10_frame ∈ gw := gw_at 1006 (by decide +kernel) rfl
theorem im_X10_frame : Cond.instanceMethod yX10_frame ∈ gw := gw_at 1007 (by decide +kernel) rfl
theorem se_X10_frame : Cond.selects RX10 yX10_frame yX10_frame ∈ gw := gw_at 1008 (by decide +kernel) rfl
theorem cd_X10_frame : Cond.code yX10_frame cX10_frame 5 (some .int) ∈ gw := gw_in (tb_4 (List.mem_of_getElem? (i := 210) rfl)) rfl
theorem kl_X10_141 : Cond.constantLong RX10 141 (-1) ∈ gw := gw_at 1010 (by decide +kernel) rfl
theorem kl_X10_143 : Cond.constantLong RX10 143 (8) ∈ gw := gw_at 1011 (by decide +kernel) rfl
theorem ml_L_39 : Cond.methodLink RL 39 yX10_set ∈ gw := gw_at 1012 (by decide +kernel) rfl
theorem im_X10_set : Cond.instanceMethod yX10_set ∈ gw := gw_at 1013 (by decide +kernel) rfl
theorem se_X10_set : Cond.selects RX10 yX10_set yX10_set ∈ gw := gw_at 1014 (by decide +kernel) rfl
theorem cd_X10_set : Cond.code yX10_set cX10_set 7 (some .int) ∈ gw := gw_in (tb_4 (List.mem_of_getElem? (i := 216) rfl)) rfl
theorem ml_L_43 : Cond.methodLink RL 43 yX10_judge ∈ gw := gw_at 1016 (by decide +kernel) rfl
theorem im_X10_judge : Cond.instanceMethod yX10_judge ∈ gw := gw_at 1017 (by decide +kernel) rfl
theorem se_X10_judge : Cond.selects RX10 yX10_judge yX10_judge ∈ gw := gw_at 1018 (by decide +kernel) rfl
theorem cd_X10_judge : Cond.code yX10_judge cX10_judge 3 (some .int) ∈ gw := gw_in (tb_4 (List.mem_of_getElem? (i := 220) rfl)) rfl
theorem ml_X10_209 : Cond.methodLink RX10 209 yX10_wrongByFrames ∈ gw := gw_at 1020 (by decide +kernel) rfl
theorem im_X10_wrongByFrames : Cond.instanceMethod yX10_wrongByFrames ∈ gw := gw_at 1022 (by decide +kernel) rfl
theorem cd_X10_wrongByFrames : Cond.code yX10_wrongByFrames cX10_wrongByFrames 6 (some .int) ∈ gw := gw_in (tb_4 (List.mem_of_getElem? (i := 224) rfl)) rfl
theorem ml_X10_188 : Cond.methodLink RX10 188 yX10_begins ∈ gw := gw_at 1024 (by decide +kernel) rfl
theorem im_X10_begins : Cond.instanceMethod yX10_begins ∈ gw := gw_at 1026 (by decide +kernel) rfl
theorem cd_X10_begins : Cond.code yX10_begins cX10_begins 3 none ∈ gw := gw_in (tb_4 (List.mem_of_getElem? (i := 228) rfl)) rfl
theorem ml_X10_191 : Cond.methodLink RX10 191 yX10_goesToFrame ∈ gw := gw_at 1028 (by decide +kernel) rfl
theorem im_X10_goesToFrame : Cond.instanceMethod yX10_goesToFrame ∈ gw := gw_at 1030 (by decide +kernel) rfl
theorem cd_X10_goesToFrame : Cond.code yX10_goesToFrame cX10_goesToFrame 6 (some .boolean) ∈ gw := gw_in (tb_4 (List.mem_of_getElem? (i := 232) rfl)) rfl
theorem ml_X10_194 : Cond.methodLink RX10 194 yX10_sees ∈ gw := gw_at 1032 (by decide +kernel) rfl
theorem im_X10_sees : Cond.instanceMethod yX10_sees ∈ gw := gw_at 1034 (by decide +kernel) rfl
theorem cd_X10_sees : Cond.code yX10_sees cX10_sees 3 none ∈ gw := gw_in (tb_4 (List.mem_of_getElem? (i := 236) rfl)) rfl
theorem ml_X10_197 : Cond.methodLink RX10 197 yX10_handlersFit ∈ gw := gw_at 1036 (by decide +kernel) rfl
theorem im_X10_handlersFit : Cond.instanceMethod yX10_handlersFit ∈ gw := gw_at 1038 (by decide +kernel) rfl
theorem cd_X10_handlersFit : Cond.code yX10_handlersFit cX10_handlersFit 8 (some .boolean) ∈ gw := gw_in (tb_5 (List.mem_of_getElem? (i := 0) rfl)) rfl
theorem ml_X10_200 : Cond.methodLink RX10 200 yX10_does ∈ gw := gw_at 1040 (by decide +kernel) rfl
theorem im_X10_does : Cond.instanceMethod yX10_does ∈ gw := gw_at 1042 (by decide +kernel) rfl
theorem cd_X10_does : Cond.code yX10_does cX10_does 6 (some .boolean) ∈ gw := gw_in (tb_5 (List.mem_of_getElem? (i := 4) rfl)) rfl
theorem ml_X10_148 : Cond.methodLink RX10 148 yX10_push ∈ gw := gw_at 1044 (by decide +kernel) rfl
theorem im_X10_push : Cond.instanceMethod yX10_push ∈ gw := gw_at 1046 (by decide +kernel) rfl
theorem cd_X10_push : Cond.code yX10_push cX10_push 2 (some .boolean) ∈ gw := gw_in (tb_5 (List.mem_of_getElem? (i := 8) rfl)) rfl
theorem ml_X10_154 : Cond.methodLink RX10 154 yX10_pushLong ∈ gw := gw_at 1048 (by decide +kernel) rfl
theorem im_X10_pushLong : Cond.instanceMethod yX10_pushLong ∈ gw := gw_at 1050 (by decide +kernel) rfl
theorem cd_X10_pushLong : Cond.code yX10_pushLong cX10_pushLong 1 (some .boolean) ∈ gw := gw_in (tb_5 (List.mem_of_getElem? (i := 12) rfl)) rfl
theorem ml_X10_151 : Cond.methodLink RX10 151 yX10_isOnePlace ∈ gw := gw_at 1052 (by decide +kernel) rfl
theorem st_X10_isOnePlace : Cond.static yX10_isOnePlace ∈ gw := gw_at 1053 (by decide +kernel) rfl
theorem cd_X10_isOnePlace : Cond.code yX10_isOnePlace cX10_isOnePlace 1 (some .boolean) ∈ gw := gw_in (tb_5 (List.mem_of_getElem? (i := 15) rfl)) rfl
theorem ml_X10_158 : Cond.methodLink RX10 158 yX10_isOneOnTop ∈ gw := gw_at 1055 (by decide +kernel) rfl
theorem im_X10_isOneOnTop : Cond.instanceMethod yX10_isOneOnTop ∈ gw := gw_at 1057 (by decide +kernel) rfl
theorem cd_X10_isOneOnTop : Cond.code yX10_isOneOnTop cX10_isOneOnTop 2 (some .boolean) ∈ gw := gw_in (tb_5 (List.mem_of_getElem? (i := 19) rfl)) rfl
theorem ml_X10_161 : Cond.methodLink RX10 161 yX10_local ∈ gw := gw_at 1059 (by decide +kernel) rfl
theorem im_X10_local : Cond.instanceMethod yX10_local ∈ gw := gw_at 1061 (by decide +kernel) rfl
theorem cd_X10_local : Cond.code yX10_local cX10_local 3 none ∈ gw := gw_in (tb_5 (List.mem_of_getElem? (i := 23) rfl)) rfl
theorem kl_X10_165 : Cond.constantLong RX10 165 (6) ∈ gw := gw_at 1063 (by decide +kernel) rfl
theorem ml_X10_167 : Cond.methodLink RX10 167 yX10_popLong ∈ gw := gw_at 1064 (by decide +kernel) rfl
theorem im_X10_popLong : Cond.instanceMethod yX10_popLong ∈ gw := gw_at 1066 (by decide +kernel) rfl
theorem cd_X10_popLong : Cond.code yX10_popLong cX10_popLong 1 (some .boolean) ∈ gw := gw_in (tb_5 (List.mem_of_getElem? (i := 28) rfl)) rfl
theorem ml_X10_170 : Cond.methodLink RX10 170 yX10_pop ∈ gw := gw_at 1068 (by decide +kernel) rfl
end
section
theorem im_X10_pop : Cond.instanceMethod yX10_pop ∈ gw := gw_at 1070 (by decide +kernel) rfl
theorem cd_X10_pop : Cond.code yX10_pop cX10_pop 2 (some .boolean) ∈ gw := gw_in (tb_5 (List.mem_of_getElem? (i := 32) rfl)) rfl
theorem ml_X10_173 : Cond.methodLink RX10 173 yX10_isNew ∈ gw := gw_at 1072 (by decide +kernel) rfl
theorem im_X10_isNew : Cond.instanceMethod yX10_isNew ∈ gw := gw_at 1074 (by decide +kernel) rfl
theorem cd_X10_isNew : Cond.code yX10_isNew cX10_isNew 5 (some .boolean) ∈ gw := gw_in (tb_5 (List.mem_of_getElem? (i := 36) rfl)) rfl
theorem ml_X10_177 : Cond.methodLink RX10 177 yX10_isMade ∈ gw := gw_at 1076 (by decide +kernel) rfl
theorem im_X10_isMade : Cond.instanceMethod yX10_isMade ∈ gw := gw_at 1078 (by decide +kernel) rfl
theorem cd_X10_isMade : Cond.code yX10_isMade cX10_isMade 7 (some .boolean) ∈ gw := gw_in (tb_5 (List.mem_of_getElem? (i := 40) rfl)) rfl
theorem ml_X10_180 : Cond.methodLink RX10 180 yX10_doesMore ∈ gw := gw_at 1080 (by decide +kernel) rfl
theorem im_X10_doesMore : Cond.instanceMethod yX10_doesMore ∈ gw := gw_at 1082 (by decide +kernel) rfl
theorem cd_X10_doesMore : Cond.code yX10_doesMore cX10_doesMore 10 (some .boolean) ∈ gw := gw_in (tb_5 (List.mem_of_getElem? (i := 44) rfl)) rfl
theorem ml_X10_203 : Cond.methodLink RX10 203 yX10_leads ∈ gw := gw_at 1084 (by decide +kernel) rfl
theorem st_X10_leads : Cond.static yX10_leads ∈ gw := gw_at 1085 (by decide +kernel) rfl
theorem cd_X10_leads : Cond.code yX10_leads cX10_leads 1 (some .boolean) ∈ gw := gw_in (tb_5 (List.mem_of_getElem? (i := 47) rfl)) rfl
theorem kl_X10_184 : Cond.constantLong RX10 184 (29) ∈ gw := gw_at 1087 (by decide +kernel) rfl
theorem kl_X10_186 : Cond.constantLong RX10 186 (31) ∈ gw := gw_at 1088 (by decide +kernel) rfl
theorem ml_X10_206 : Cond.methodLink RX10 206 yX10_isLast ∈ gw := gw_at 1089 (by decide +kernel) rfl
theorem st_X10_isLast : Cond.static yX10_isLast ∈ gw := gw_at 1090 (by decide +kernel) rfl
theorem cd_X10_isLast : Cond.code yX10_isLast cX10_isLast 1 (some .boolean) ∈ gw := gw_in (tb_5 (List.mem_of_getElem? (i := 52) rfl)) rfl
theorem ml_L_47 : Cond.methodLink RL 47 yX10_join ∈ gw := gw_at 1092 (by decide +kernel) rfl
theorem im_X10_join : Cond.instanceMethod yX10_join ∈ gw := gw_at 1093 (by decide +kernel) rfl
theorem se_X10_join : Cond.selects RX10 yX10_join yX10_join ∈ gw := gw_at 1094 (by decide +kernel) rfl
theorem cd_X10_join : Cond.code yX10_join cX10_join 3 (some .int) ∈ gw := gw_in (tb_5 (List.mem_of_getElem? (i := 56) rfl)) rfl
theorem ml_X10_231 : Cond.methodLink RX10 231 yX10_wrongJoined ∈ gw := gw_at 1096 (by decide +kernel) rfl
theorem im_X10_wrongJoined : Cond.instanceMethod yX10_wrongJoined ∈ gw := gw_at 1098 (by decide +kernel) rfl
theorem cd_X10_wrongJoined : Cond.code yX10_wrongJoined cX10_wrongJoined 4 (some .int) ∈ gw := gw_in (tb_5 (List.mem_of_getElem? (i := 60) rfl)) rfl
theorem ml_X10_228 : Cond.methodLink RX10 228 yX10_goesOn ∈ gw := gw_at 1100 (by decide +kernel) rfl
theorem im_X10_goesOn : Cond.instanceMethod yX10_goesOn ∈ gw := gw_at 1102 (by decide +kernel) rfl
theorem cd_X10_goesOn : Cond.code yX10_goesOn cX10_goesOn 7 (some .boolean) ∈ gw := gw_in (tb_5 (List.mem_of_getElem? (i := 64) rfl)) rfl
theorem ml_X10_216 : Cond.methodLink RX10 216 yX10_takes ∈ gw := gw_at 1104 (by decide +kernel) rfl
theorem im_X10_takes : Cond.instanceMethod yX10_takes ∈ gw := gw_at 1106 (by decide +kernel) rfl
theorem cd_X10_takes : Cond.code yX10_takes cX10_takes 3 none ∈ gw := gw_in (tb_5 (List.mem_of_getElem? (i := 68) rfl)) rfl
theorem ml_X10_219 : Cond.methodLink RX10 219 yX10_comesTo ∈ gw := gw_at 1108 (by decide +kernel) rfl
theorem im_X10_comesTo : Cond.instanceMethod yX10_comesTo ∈ gw := gw_at 1110 (by decide +kernel) rfl
theorem cd_X10_comesTo : Cond.code yX10_comesTo cX10_comesTo 5 (some .boolean) ∈ gw := gw_in (tb_5 (List.mem_of_getElem? (i := 72) rfl)) rfl
theorem ml_X10_222 : Cond.methodLink RX10 222 yX10_ahead ∈ gw := gw_at 1112 (by decide +kernel) rfl
theorem im_X10_ahead : Cond.instanceMethod yX10_ahead ∈ gw := gw_at 1114 (by decide +kernel) rfl
theorem cd_X10_ahead : Cond.code yX10_ahead cX10_ahead 3 none ∈ gw := gw_in (tb_5 (List.mem_of_getElem? (i := 76) rfl)) rfl
theorem ml_L_52 : Cond.methodLink RL 52 yX10_kind ∈ gw := gw_at 1116 (by decide +kernel) rfl
theorem im_X10_kind : Cond.instanceMethod yX10_kind ∈ gw := gw_at 1117 (by decide +kernel) rfl
theorem se_X10_kind : Cond.selects RX10 yX10_kind yX10_kind ∈ gw := gw_at 1118 (by decide +kernel) rfl
theorem cd_X10_kind : Cond.code yX10_kind cX10_kind 3 (some .int) ∈ gw := gw_in (tb_5 (List.mem_of_getElem? (i := 80) rfl)) rfl
theorem ki_X10_234 : Cond.constant RX10 234 (-99999999) ∈ gw := gw_at 1120 (by decide +kernel) rfl
theorem ml_L_57 : Cond.methodLink RL 57 yX10_rounds ∈ gw := gw_at 1121 (by decide +kernel) rfl
theorem im_X10_rounds : Cond.instanceMethod yX10_rounds ∈ gw := gw_at 1122 (by decide +kernel) rfl
theorem se_X10_rounds : Cond.selects RX10 yX10_rounds yX10_rounds ∈ gw := gw_at 1123 (by decide +kernel) rfl
theorem cd_X10_rounds : Cond.code yX10_rounds cX10_rounds 1 (some .int) ∈ gw := gw_in (tb_5 (List.mem_of_getElem? (i := 85) rfl)) rfl
theorem ml_L_66 : Cond.methodLink RL 66 yX10_run ∈ gw := gw_at 1125 (by decide +kernel) rfl
theorem im_X10_run : Cond.instanceMethod yX10_run ∈ gw := gw_at 1126 (by decide +kernel) rfl
theorem se_X10_run : Cond.selects RX10 yX10_run yX10_run ∈ gw := gw_at 1127 (by decide +kernel) rfl
theorem cd_X10_run : Cond.code yX10_run cX10_run 7 (some .int) ∈ gw := gw_in (tb_5 (List.mem_of_getElem? (i := 89) rfl)) rfl
theorem ml_X10_242 : Cond.methodLink RX10 242 yX10_areRight ∈ gw := gw_at 1129 (by decide +kernel) rfl
theorem im_X10_areRight : Cond.instanceMethod yX10_areRight ∈ gw := gw_at 1131 (by decide +kernel) rfl
theorem cd_X10_areRight : Cond.code yX10_areRight cX10_areRight 5 (some .boolean) ∈ gw := gw_in (tb_5 (List.mem_of_getElem? (i := 93) rfl)) rfl
theorem ml_X10_266 : Cond.methodLink RX10 266 yX10_works ∈ gw := gw_at 1133 (by decide +kernel) rfl
theorem im_X10_works : Cond.instanceMethod yX10_works ∈ gw := gw_at 1135 (by decide +kernel) rfl
theorem cd_X10_works : Cond.code yX10_works cX10_works 7 (some .int) ∈ gw := gw_in (tb_5 (List.mem_of_getElem? (i := 97) rfl)) rfl
theorem ml_X10_280 : Cond.methodLink RX10 280 yX10_simple ∈ gw := gw_at 1137 (by decide +kernel) rfl
theorem im_X10_simple : Cond.instanceMethod yX10_simple ∈ gw := gw_at 1139 (by decide +kernel) rfl
theorem cd_X10_simple : Cond.code yX10_simple cX10_simple 17 (some .int) ∈ gw := gw_in (tb_5 (List.mem_of_getElem? (i := 101) rfl)) rfl
theorem ml_X10_238 : Cond.methodLink RX10 238 yX10_put ∈ gw := gw_at 1141 (by decide +kernel) rfl
theorem im_X10_put : Cond.instanceMethod yX10_put ∈ gw := gw_at 1143 (by decide +kernel) rfl
theorem cd_X10_put : Cond.code yX10_put cX10_put 3 none ∈ gw := gw_in (tb_5 (List.mem_of_getElem? (i := 105) rfl)) rfl
theorem ml_X10_290 : Cond.methodLink RX10 290 yX10_putLong ∈ gw := gw_at 1145 (by decide +kernel) rfl
theorem im_X10_putLong : Cond.instanceMethod yX10_putLong ∈ gw := gw_at 1147 (by decide +kernel) rfl
theorem cd_X10_putLong : Cond.code yX10_putLong cX10_putLong 3 none ∈ gw := gw_in (tb_5 (List.mem_of_getElem? (i := 109) rfl)) rfl
theorem ml_X10_293 : Cond.methodLink RX10 293 yX10_take ∈ gw := gw_at 1149 (by decide +kernel) rfl
theorem im_X10_take : Cond.instanceMethod yX10_take ∈ gw := gw_at 1151 (by decide +kernel) rfl
theorem cd_X10_take : Cond.code yX10_take cX10_take 1 (some .long) ∈ gw := gw_in (tb_5 (List.mem_of_getElem? (i := 113) rfl)) rfl
theorem ml_X10_297 : Cond.methodLink RX10 297 yX10_takeLong ∈ gw := gw_at 1153 (by decide +kernel) rfl
theorem im_X10_takeLong : Cond.instanceMethod yX10_takeLong ∈ gw := gw_at 1155 (by decide +kernel) rfl
theorem cd_X10_takeLong : Cond.code yX10_takeLong cX10_takeLong 1 (some .long) ∈ gw := gw_in (tb_5 (List.mem_of_getElem? (i := 117) rfl)) rfl
theorem kl_X10_276 : Cond.constantLong RX10 276 (2) ∈ gw := gw_at 1157 (by decide +kernel) rfl
theorem ml_X10_300 : Cond.methodLink RX10 300 yX10_arith ∈ gw := gw_at 1158 (by decide +kernel) rfl
theorem st_X10_arith : Cond.static yX10_arith ∈ gw := gw_at 1159 (by decide +kernel) rfl
theorem cd_X10_arith : Cond.code yX10_arith cX10_arith 4 (some .int) ∈ gw := gw_in (tb_5 (List.mem_of_getElem? (i := 121) rfl)) rfl
theorem kl_X10_278 : Cond.constantLong RX10 278 (3) ∈ gw := gw_at 1161 (by decide +kernel) rfl
theorem ml_X10_304 : Cond.methodLink RX10 304 yX10_arithLong ∈ gw := gw_at 1162 (by decide +kernel) rfl
theorem st_X10_arithLong : Cond.static yX10_arithLong ∈ gw := gw_at 1163 (by decide +kernel) rfl
theorem cd_X10_arithLong : Cond.code yX10_arithLong cX10_arithLong 6 (some .long) ∈ gw := gw_in (tb_5 (List.mem_of_getElem? (i := 125) rfl)) rfl
theorem ml_X10_308 : Cond.methodLink RX10 308 yX10_make ∈ gw := gw_at 1165 (by decide +kernel) rfl
theorem im_X10_make : Cond.instanceMethod yX10_make ∈ gw := gw_at 1167 (by decide +kernel) rfl
theorem cd_X10_make : Cond.code yX10_make cX10_make 4 (some .int) ∈ gw := gw_in (tb_5 (List.mem_of_getElem? (i := 129) rfl)) rfl
theorem ml_X10_284 : Cond.methodLink RX10 284 yX10_ofThings ∈ gw := gw_at 1169 (by decide +kernel) rfl
theorem im_X10_ofThings : Cond.instanceMethod yX10_ofThings ∈ gw := gw_at 1171 (by decide +kernel) rfl
theorem cd_X10_ofThings : Cond.code yX10_ofThings cX10_ofThings 9 (some .int) ∈ gw := gw_in (tb_5 (List.mem_of_getElem? (i := 133) rfl)) rfl
theorem ml_X10_311 : Cond.methodLink RX10 311 yX10_isOf ∈ gw := gw_at 1173 (by decide +kernel) rfl
theorem im_X10_isOf : Cond.instanceMethod yX10_isOf ∈ gw := gw_at 1175 (by decide +kernel) rfl
theorem cd_X10_isOf : Cond.code yX10_isOf cX10_isOf 3 (some .boolean) ∈ gw := gw_in (tb_5 (List.mem_of_getElem? (i := 137) rfl)) rfl
theorem ml_X10_314 : Cond.methodLink RX10 314 yX10_worth ∈ gw := gw_at 1177 (by decide +kernel) rfl
theorem im_X10_worth : Cond.instanceMethod yX10_worth ∈ gw := gw_at 1179 (by decide +kernel) rfl
theorem cd_X10_worth : Cond.code yX10_worth cX10_worth 5 (some .int) ∈ gw := gw_in (tb_5 (List.mem_of_getElem? (i := 141) rfl)) rfl
theorem ml_X10_287 : Cond.methodLink RX10 287 yX10_others ∈ gw := gw_at 1181 (by decide +kernel) rfl
theorem im_X10_others : Cond.instanceMethod yX10_others ∈ gw := gw_at 1183 (by decide +kernel) rfl
theorem cd_X10_others : Cond.code yX10_others cX10_others 7 (some .int) ∈ gw := gw_in (tb_5 (List.mem_of_getElem? (i := 145) rfl)) rfl
theorem ml_X10_317 : Cond.methodLink RX10 317 yX10_calls ∈ gw := gw_at 1185 (by decide +kernel) rfl
theorem im_X10_calls : Cond.instanceMethod yX10_calls ∈ gw := gw_at 1187 (by decide +kernel) rfl
theorem cd_X10_calls : Cond.code yX10_calls cX10_calls 3 none ∈ gw := gw_in (tb_5 (List.mem_of_getElem? (i := 149) rfl)) rfl
theorem ml_X10_270 : Cond.methodLink RX10 270 yX10_after ∈ gw := gw_at 1189 (by decide +kernel) rfl
theorem im_X10_after : Cond.instanceMethod yX10_after ∈ gw := gw_at 1191 (by decide +kernel) rfl
theorem cd_X10_after : Cond.code yX10_after cX10_after 7 (some .int) ∈ gw := gw_in (tb_5 (List.mem_of_getElem? (i := 153) rfl)) rfl
theorem ml_L_70 : Cond.methodLink RL 70 yX10_answer ∈ gw := gw_at 1193 (by decide +kernel) rfl
theorem im_X10_answer : Cond.instanceMethod yX10_answer ∈ gw := gw_at 1194 (by decide +kernel) rfl
theorem se_X10_answer : Cond.selects RX10 yX10_answer yX10_answer ∈ gw := gw_at 1195 (by decide +kernel) rfl
theorem cd_X10_answer : Cond.code yX10_answer cX10_answer 1 (some .int) ∈ gw := gw_in (tb_5 (List.mem_of_getElem? (i := 157) rfl)) rfl
theorem ml_L_74 : Cond.methodLink RL 74 yX10_told ∈ gw := gw_at 1197 (by decide +kernel) rfl
theorem im_X10_told : Cond.instanceMethod yX10_told ∈ gw := gw_at 1198 (by decide +kernel) rfl
theorem se_X10_told : Cond.selects RX10 yX10_told yX10_told ∈ gw := gw_at 1199 (by decide +kernel) rfl
theorem cd_X10_told : Cond.code yX10_told cX10_told 2 (some .int) ∈ gw := gw_in (tb_5 (List.mem_of_getElem? (i := 161) rfl)) rfl
theorem ml_L_78 : Cond.methodLink RL 78 yX10_count ∈ gw := gw_at 1201 (by decide +kernel) rfl
theorem im_X10_count : Cond.instanceMethod yX10_count ∈ gw := gw_at 1202 (by decide +kernel) rfl
theorem se_X10_count : Cond.selects RX10 yX10_count yX10_count ∈ gw := gw_at 1203 (by decide +kernel) rfl
theorem cd_X10_count : Cond.code yX10_count cX10_count 3 (some .int) ∈ gw := gw_in (tb_5 (List.mem_of_getElem? (i := 165) rfl)) rfl
theorem kl_L_18 : Cond.constantLong RL 18 (4294967295) ∈ gw := gw_at 1205 (by decide +kernel) rfl
theorem se_X2_forget : Cond.selects RX2 yX2_forget yX2_forget ∈ gw := gw_at 0 (by decide +kernel) rfl
theorem se_X8_moves : Cond.selects RX8 yX8_moves yX8_moves ∈ gw := gw_at 1 (by decide +kernel) rfl
theorem se_X8_stores : Cond.selects RX8 yX8_stores yX8_stores ∈ gw := gw_at 2 (by decide +kernel) rfl
theorem se_X8_holdsLong : Cond.selects RX8 yX8_holdsLong yX8_holdsLong ∈ gw := gw_at 3 (by decide +kernel) rfl
theorem se_X8_storesLong : Cond.selects RX8 yX8_storesLong yX8_storesLong ∈ gw := gw_at 4 (by decide +kernel) rfl
theorem se_X8_reckons : Cond.selects RX8 yX8_reckons yX8_reckons ∈ gw := gw_at 5 (by decide +kernel) rfl
theorem se_X8_begins : Cond.selects RX8 yX8_begins yX8_begins ∈ gw := gw_at 6 (by decide +kernel) rfl
theorem se_X8_finishes : Cond.selects RX8 yX8_finishes yX8_finishes ∈ gw := gw_at 7 (by decide +kernel) rfl
theorem se_X8_usesArray : Cond.selects RX8 yX8_usesArray yX8_usesArray ∈ gw := gw_at 8 (by decide +kernel) rfl
theorem se_X8_takes : Cond.selects RX8 yX8_takes yX8_takes ∈ gw := gw_at 9 (by decide +kernel) rfl
theorem se_X8_usesObject : Cond.selects RX8 yX8_usesObject yX8_usesObject ∈ gw := gw_at 10 (by decide +kernel) rfl
theorem se_X8_turns : Cond.selects RX8 yX8_turns yX8_turns ∈ gw := gw_at 11 (by decide +kernel) rfl
theorem se_X8_calls : Cond.selects RX8 yX8_calls yX8_calls ∈ gw := gw_at 12 (by decide +kernel) rfl
theorem se_X8_goesElsewhere : Cond.selects RX8 yX8_goesElsewhere yX8_goesElsewhere ∈ gw := gw_at 13 (by decide +kernel) rfl
theorem se_X2_leadsToFrame : Cond.selects RX2 yX2_leadsToFrame yX2_leadsToFrame ∈ gw := gw_at 14 (by decide +kernel) rfl
theorem se_X2_handlersFit : Cond.selects RX2 yX2_handlersFit yX2_handlersFit ∈ gw := gw_at 15 (by decide +kernel) rfl
theorem se_X2_arrives : Cond.selects RX2 yX2_arrives yX2_arrives ∈ gw := gw_at 16 (by decide +kernel) rfl
theorem se_X2_handsOn : Cond.selects RX2 yX2_handsOn yX2_handsOn ∈ gw := gw_at 17 (by decide +kernel) rfl
theorem se_X4_enter : Cond.selects RX4 yX4_enter yX4_enter ∈ gw := gw_at 18 (by decide +kernel) rfl
theorem se_X4_doNext : Cond.selects RX4 yX4_doNext yX4_doNext ∈ gw := gw_at 19 (by decide +kernel) rfl
theorem se_X4_does : Cond.selects RX4 yX4_does yX4_does ∈ gw := gw_at 20 (by decide +kernel) rfl
theorem se_X4_moves : Cond.selects RX4 yX4_moves yX4_moves ∈ gw := gw_at 21 (by decide +kernel) rfl
theorem se_X4_push : Cond.selects RX4 yX4_push yX4_push ∈ gw := gw_at 22 (by decide +kernel) rfl
theorem se_X4_pushLong : Cond.selects RX4 yX4_pushLong yX4_pushLong ∈ gw := gw_at 23 (by decide +kernel) rfl
theorem se_X4_pop : Cond.selects RX4 yX4_pop yX4_pop ∈ gw := gw_at 24 (by decide +kernel) rfl
theorem se_X4_popLong : Cond.selects RX4 yX4_popLong yX4_popLong ∈ gw := gw_at 25 (by decide +kernel) rfl
theorem se_X4_reckons : Cond.selects RX4 yX4_reckons yX4_reckons ∈ gw := gw_at 26 (by decide +kernel) rfl
theorem se_X4_relatesInts : Cond.selects RX4 yX4_relatesInts yX4_relatesInts ∈ gw := gw_at 27 (by decide +kernel) rfl
theorem se_X4_popInt : Cond.selects RX4 yX4_popInt yX4_popInt ∈ gw := gw_at 28 (by decide +kernel) rfl
theorem se_X4_relatesLongs : Cond.selects RX4 yX4_relatesLongs yX4_relatesLongs ∈ gw := gw_at 29 (by decide +kernel) rfl
theorem se_X4_makes : Cond.selects RX4 yX4_makes yX4_makes ∈ gw := gw_at 30 (by decide +kernel) rfl
theorem se_X4_pushNew : Cond.selects RX4 yX4_pushNew yX4_pushNew ∈ gw := gw_at 31 (by decide +kernel) rfl
theorem se_X4_end : Cond.selects RX4 yX4_end yX4_end ∈ gw := gw_at 32 (by decide +kernel) rfl
theorem se_X4_usesArray : Cond.selects RX4 yX4_usesArray yX4_usesArray ∈ gw := gw_at 33 (by decide +kernel) rfl
theorem se_X4_asks : Cond.selects RX4 yX4_asks yX4_asks ∈ gw := gw_at 34 (by decide +kernel) rfl
theorem se_X4_usesObject : Cond.selects RX4 yX4_usesObject yX4_usesObject ∈ gw := gw_at 35 (by decide +kernel) rfl
theorem se_X4_turns : Cond.selects RX4 yX4_turns yX4_turns ∈ gw := gw_at 36 (by decide +kernel) rfl
theorem se_X4_leads : Cond.selects RX4 yX4_leads yX4_leads ∈ gw := gw_at 37 (by decide +kernel) rfl
theorem se_X4_jumpsIf : Cond.selects RX4 yX4_jumpsIf yX4_jumpsIf ∈ gw := gw_at 38 (by decide +kernel) rfl
theorem se_X4_returns : Cond.selects RX4 yX4_returns yX4_returns ∈ gw := gw_at 39 (by decide +kernel) rfl
theorem se_X4_calls : Cond.selects RX4 yX4_calls yX4_calls ∈ gw := gw_at 40 (by decide +kernel) rfl
theorem se_X4_arises : Cond.selects RX4 yX4_arises yX4_arises ∈ gw := gw_at 41 (by decide +kernel) rfl
theorem se_X4_catches : Cond.selects RX4 yX4_catches yX4_catches ∈ gw := gw_at 42 (by decide +kernel) rfl
theorem se_X10_isMethod : Cond.selects RX10 yX10_isMethod yX10_isMethod ∈ gw := gw_at 43 (by decide +kernel) rfl
theorem se_X10_changed : Cond.selects RX10 yX10_changed yX10_changed ∈ gw := gw_at 44 (by decide +kernel) rfl
theorem se_X10_wrongByFrames : Cond.selects RX10 yX10_wrongByFrames yX10_wrongByFrames ∈ gw := gw_at 45 (by decide +kernel) rfl
theorem se_X10_begins : Cond.selects RX10 yX10_begins yX10_begins ∈ gw := gw_at 46 (by decide +kernel) rfl
theorem se_X10_goesToFrame : Cond.selects RX10 yX10_goesToFrame yX10_goesToFrame ∈ gw := gw_at 47 (by decide +kernel) rfl
theorem se_X10_sees : Cond.selects RX10 yX10_sees yX10_sees ∈ gw := gw_at 48 (by decide +kernel) rfl
theorem se_X10_handlersFit : Cond.selects RX10 yX10_handlersFit yX10_handlersFit ∈ gw := gw_at 49 (by decide +kernel) rfl
theorem se_X10_does : Cond.selects RX10 yX10_does yX10_does ∈ gw := gw_at 50 (by decide +kernel) rfl
theorem se_X10_push : Cond.selects RX10 yX10_push yX10_push ∈ gw := gw_at 51 (by decide +kernel) rfl
theorem se_X10_pushLong : Cond.selects RX10 yX10_pushLong yX10_pushLong ∈ gw := gw_at 52 (by decide +kernel) rfl
theorem se_X10_isOneOnTop : Cond.selects RX10 yX10_isOneOnTop yX10_isOneOnTop ∈ gw := gw_at 53 (by decide +kernel) rfl
theorem se_X10_local : Cond.selects RX10 yX10_local yX10_local ∈ gw := gw_at 54 (by decide +kernel) rfl
theorem se_X10_popLong : Cond.selects RX10 yX10_popLong yX10_popLong ∈ gw := gw_at 55 (by decide +kernel) rfl
theorem se_X10_pop : Cond.selects RX10 yX10_pop yX10_pop ∈ gw := gw_at 56 (by decide +kernel) rfl
theorem se_X10_isNew : Cond.selects RX10 yX10_isNew yX10_isNew ∈ gw := gw_at 57 (by decide +kernel) rfl
theorem se_X10_isMade : Cond.selects RX10 yX10_isMade yX10_isMade ∈ gw := gw_at 58 (by decide +kernel) rfl
theorem se_X10_doesMore : Cond.selects RX10 yX10_doesMore yX10_doesMore ∈ gw := gw_at 59 (by decide +kernel) rfl
theorem se_X10_wrongJoined : Cond.selects RX10 yX10_wrongJoined yX10_wrongJoined ∈ gw := gw_at 60 (by decide +kernel) rfl
theorem se_X10_goesOn : Cond.selects RX10 yX10_goesOn yX10_goesOn ∈ gw := gw_at 61 (by decide +kernel) rfl
theorem se_X10_takes : Cond.selects RX10 yX10_takes yX10_takes ∈ gw := gw_at 62 (by decide +kernel) rfl
theorem se_X10_comesTo : Cond.selects RX10 yX10_comesTo yX10_comesTo ∈ gw := gw_at 63 (by decide +kernel) rfl
theorem se_X10_ahead : Cond.selects RX10 yX10_ahead yX10_ahead ∈ gw := gw_at 64 (by decide +kernel) rfl
theorem se_X10_areRight : Cond.selects RX10 yX10_areRight yX10_areRight ∈ gw := gw_at 65 (by decide +kernel) rfl
theorem se_X10_works : Cond.selects RX10 yX10_works yX10_works ∈ gw := gw_at 66 (by decide +kernel) rfl
theorem se_X10_simple : Cond.selects RX10 yX10_simple yX10_simple ∈ gw := gw_at 67 (by decide +kernel) rfl
theorem se_X10_put : Cond.selects RX10 yX10_put yX10_put ∈ gw := gw_at 68 (by decide +kernel) rfl
theorem se_X10_putLong : Cond.selects RX10 yX10_putLong yX10_putLong ∈ gw := gw_at 69 (by decide +kernel) rfl
theorem se_X10_take : Cond.selects RX10 yX10_take yX10_take ∈ gw := gw_at 70 (by decide +kernel) rfl
theorem se_X10_takeLong : Cond.selects RX10 yX10_takeLong yX10_takeLong ∈ gw := gw_at 71 (by decide +kernel) rfl
theorem se_X10_make : Cond.selects RX10 yX10_make yX10_make ∈ gw := gw_at 72 (by decide +kernel) rfl
theorem se_X10_ofThings : Cond.selects RX10 yX10_ofThings yX10_ofThings ∈ gw := gw_at 73 (by decide +kernel) rfl
theorem se_X10_isOf : Cond.selects RX10 yX10_isOf yX10_isOf ∈ gw := gw_at 74 (by decide +kernel) rfl
theorem se_X10_worth : Cond.selects RX10 yX10_worth yX10_worth ∈ gw := gw_at 75 (by decide +kernel) rfl
theorem se_X10_others : Cond.selects RX10 yX10_others yX10_others ∈ gw := gw_at 76 (by decide +kernel) rfl
theorem se_X10_calls : Cond.selects RX10 yX10_calls yX10_calls ∈ gw := gw_at 77 (by decide +kernel) rfl
theorem se_X10_after : Cond.selects RX10 yX10_after yX10_after ∈ gw := gw_at 78 (by decide +kernel) rfl
end
section
/-! MEMORY BY NAMES: a world is a list of single cells and a list of families of cells; L says where each lies -/
abbrev mM : Type := List va_E × List (Nat → Nat → Option va_E)
abbrev mI : Type := Nat ⊕ (Nat × Nat × Nat)
def mget (M : mM) (i : mI) : Option va_E := match i with
  | .inl k => M.1[k]?
  | .inr (t, a, b) => match M.2[t]? with
    | some f => f a b
    | none => none
def up2 (f : Nat → Nat → Option va_E) (a b : Nat) (e : va_E) : Nat → Nat → Option va_E := fun x y => if x = a ∧ y = b then some e else f x y
def mset (M : mM) (i : mI) (e : va_E) : mM := match i with
  | .inl k => (M.1.set k e, M.2)
  | .inr (t, a, b) => (M.1, match M.2[t]? with
    | some f => M.2.set t (up2 f a b e)
    | none => M.2)
def mpush (M : mM) (e : va_E) : mM := (M.1 ++ [e], M.2)
def updI (L : mI → Nat) (i : mI) (q : Nat) : mI → Nat := fun j => if j = i then q else L j
theorem updI_self {L : mI → Nat} {i : mI} {q : Nat} : updI L i q i = q := by simp [updI]
theorem updI_ne {L : mI → Nat} {i j : mI} {q : Nat} (h : j ≠ i) : updI L i q j = L j := by simp [updI, h]
theorem mget_self {M : mM} {i : mI} {e0 e : va_E} (h : mget M i = some e0) : mget (mset M i e) i = some e := by
  rcases i with k | ⟨t, a, b⟩
  · have hk : k < M.1.length := (List.getElem?_eq_some_iff.mp h).1
    show (M.1.set k e)[k]? = some e
    rw [List.getElem?_set_self hk]
  · cases hf : M.2[t]? with
    | none => simp [mget, hf] at h
    | some f =>
      have ht : t < M.2.length := (List.getElem?_eq_some_iff.mp hf).1
      simp [mset, mget, hf, List.getElem?_set_self ht, up2]
theorem mget_selfF {M : mM} {t a b : Nat} {f : Nat → Nat → Option va_E} {e : va_E} (hf : M.2[t]? = some f) : mget (mset M (.inr (t, a, b)) e) (.inr (t, a, b)) = some e := by
  have ht : t < M.2.length := (List.getElem?_eq_some_iff.mp hf).1
  simp [mset, mget, hf, List.getElem?_set_self ht, up2]
theorem mget_ne {M : mM} {i j : mI} {e : va_E} (h : j ≠ i) : mget (mset M i e) j = mget M j := by
  rcases i with k | ⟨t, a, b⟩ <;> rcases j with k' | ⟨t', a', b'⟩
  · have hk : k ≠ k' := fun q => h (by rw [q])
    show (M.1.set k e)[k']? = M.1[k']?
    rw [List.getElem?_set_ne hk]
  · rfl
  · rfl
  · cases hf : M.2[t]? with
    | none => simp [mset, mget, hf]
    | some f =>
      have ht : t < M.2.length := (List.getElem?_eq_some_iff.mp hf).1
      by_cases q : t = t'
      · subst q
        have h2 : ¬ (a' = a ∧ b' = b) := fun z => h (by rw [z.1, z.2])
        simp [mset, mget, hf, List.getElem?_set_self ht, up2, h2]
      · simp [mset, mget, hf, List.getElem?_set_ne q]
/-- the heap holds the world, at addresses that are apart and lie in A -/
def mW (D : va_G) (cl : List vw_C) (A : Nat → Prop) (L : mI → Nat) (M : mM) (H : Heap) : Prop :=
  ∃ ws : va_W, va_P D cl ws H ∧ va_D A ws ∧ (∀ (i : mI) (e : va_E), mget M i = some e → ∃ k : Nat, ws[k]? = some (L i, e)) ∧
    ∀ (i j : mI) (x y : va_E), mget M i = some x → mget M j = some y → L i = L j → i = j
theorem mW.set {D : va_G} {cl : List vw_C} {A : Nat → Prop} {L : mI → Nat} {M : mM} {H1 : Heap} {ws : va_W} {i : mI} {k : Nat} {e0 e : va_E}
    (hk : ws[k]? = some (L i, e0)) (hi : mget M i = some e0) (h3 : ∀ (i : mI) (e : va_E), mget M i = some e → ∃ k : Nat, ws[k]? = some (L i, e)) (h4 : ∀ (i j : mI) (x y : va_E), mget M i = some x → mget M j = some y → L i = L j → i = j)
    (hP : va_P D cl (ws.set k (L i, e)) H1) (hD : va_D A (ws.set k (L i, e))) : mW D cl A L (mset M i e) H1 := by
  have hl : k < ws.length := (List.getElem?_eq_some_iff.mp hk).1
  have old : ∀ (j : mI) (x : va_E), mget (mset M i e) j = some x → ∃ y, mget M j = some y := by
    intro j x hx
    by_cases q : j = i
    · subst q; exact ⟨_, hi⟩
    · rw [mget_ne q] at hx; exact ⟨_, hx⟩
  refine ⟨_, hP, hD, fun j x hx => ?_, fun a b x y hx hy hab => ?_⟩
  · by_cases q : j = i
    · subst q
      rw [mget_self hi] at hx
      cases hx
      exact ⟨k, List.getElem?_set_self hl⟩
    · rw [mget_ne q] at hx
      obtain ⟨k', hk'⟩ := h3 j x hx
      refine ⟨k', ?_⟩
      have hne : k ≠ k' := by
        intro z
        subst z
        rw [hk] at hk'
        exact q (h4 j i x e0 hx hi (congrArg Prod.fst (Option.some.inj hk')).symm)
      rw [List.getElem?_set_ne hne]
      exact hk'
  · obtain ⟨x', hx'⟩ := old a x hx
    obtain ⟨y', hy'⟩ := old b y hy
    exact h4 a b _ _ hx' hy' hab
theorem mW.grow {D : va_G} {cl : List vw_C} {A : Nat → Prop} {L : mI → Nat} {M M' : mM} {H1 : Heap} {ws : va_W} {i : mI} {q : Nat} {e : va_E}
    (h3 : ∀ (i : mI) (e : va_E), mget M i = some e → ∃ k : Nat, ws[k]? = some (L i, e)) (h4 : ∀ (i j : mI) (x y : va_E), mget M i = some x → mget M j = some y → L i = L j → i = j)
    (hP : va_P D cl (ws ++ [(q, e)]) H1) (hD : va_D A (ws ++ [(q, e)])) (h1 : mget M' i = some e) (h2 : ∀ j, j ≠ i → mget M' j = mget M j) : mW D cl A (updI L i q) M' H1 := by
  have hlast : (ws ++ [(q, e)])[ws.length]? = some (q, e) := by simp
  have hold : ∀ (j : mI) (x : va_E), j ≠ i → mget M' j = some x → ∃ k : Nat, k < ws.length ∧ (ws ++ [(q, e)])[k]? = some (L j, x) := by
    intro j x hj hx
    rw [h2 j hj] at hx
    obtain ⟨k, hk⟩ := h3 j x hx
    have hl : k < ws.length := (List.getElem?_eq_some_iff.mp hk).1
    exact ⟨k, hl, by rw [List.getElem?_append_left hl]; exact hk⟩
  refine ⟨_, hP, hD, fun j x hx => ?_, fun a b x y hx hy hab => ?_⟩
  · by_cases z : j = i
    · subst z
      rw [h1] at hx
      cases hx
      exact ⟨ws.length, by rw [updI_self]; exact hlast⟩
    · obtain ⟨k, -, hk⟩ := hold j x z hx
      exact ⟨k, by rw [updI_ne z]; exact hk⟩
  · by_cases za : a = i <;> by_cases zb : b = i
    · rw [za, zb]
    · subst za
      obtain ⟨k, hl, hk⟩ := hold b y zb hy
      rw [updI_self, updI_ne zb] at hab
      have := hD.1 _ _ _ _ hlast hk hab
      omega
    · subst zb
      obtain ⟨k, hl, hk⟩ := hold a x za hx
      rw [updI_self, updI_ne za] at hab
      have := hD.1 _ _ _ _ hk hlast hab
      omega
    · rw [updI_ne za, updI_ne zb] at hab
      rw [h2 a za] at hx
      rw [h2 b zb] at hy
      exact h4 a b x y hx hy hab
theorem mW.weaken {D : va_G} {cl : List vw_C} {A B : Nat → Prop} {L : mI → Nat} {M : mM} {H : Heap} (h : mW D cl A L M H) (hAB : ∀ q, A q → B q) : mW D cl B L M H := by
  obtain ⟨ws, h1, h2, h3, h4⟩ := h
  exact ⟨ws, h1, h2.weaken (fun _ _ _ hq => hAB _ hq), h3, h4⟩
theorem mW.inA {D : va_G} {cl : List vw_C} {A : Nat → Prop} {L : mI → Nat} {M : mM} {H : Heap} (h : mW D cl A L M H) {i : mI} {e : va_E} (hi : mget M i = some e) : A (L i) := by
  obtain ⟨ws, h1, h2, h3, h4⟩ := h
  obtain ⟨k, hk⟩ := h3 i e hi
  exact h2.2 k _ hk
theorem mW.lt {D : va_G} {cl : List vw_C} {A : Nat → Prop} {L : mI → Nat} {M : mM} {H : Heap} (h : mW D cl A L M H) {i : mI} {e : va_E} (hi : mget M i = some e) : L i < H.size := by
  obtain ⟨ws, h1, h2, h3, h4⟩ := h
  obtain ⟨k, hk⟩ := h3 i e hi
  exact (h1 k _ hk).lt
/-- a world that nothing has touched -/
theorem mW.kept {D : va_G} {cl : List vw_C} {A : Nat → Prop} {L : mI → Nat} {M : mM} {H H1 : Heap} (h : mW D cl A L M H) (hq : ∀ q : Nat, q < H.size → A q → H1[q]? = H[q]?) : mW D cl A L M H1 := by
  obtain ⟨ws, h1, h2, h3, h4⟩ := h
  exact ⟨ws, h1.kept (fun k q hk => hq _ ((h1 k q hk).lt) (h2.2 k q hk)), h2, h3, h4⟩
end
section
/-! ROWS OVER THE MEMORY BY NAMES: what is fixed, contracts, calls, instructions -/
/-- the classes' numbers and slots; the array classes' numbers; where the static tables lie -/
abbrev mG : Type := va_G × (Nat → ClassId) × (Nat → Nat)
def mTy (Γ : mG) : List (ClassId × FieldType) := [(Γ.2.1 0, .int), (Γ.2.1 1, .long), (Γ.2.1 2, .boolean), (Γ.2.1 3, .object RX0), (Γ.2.1 4, .object RX6)]
def mUN (j : Nat) : Int32 := ([1, 3, 7, 75, 215, 163, 65, 129] : List Int32).getD j 0
def mAB (j : Nat) : Int32 := ([0, 0, 1, 1, 2, 1, 0, 0] : List Int32).getD j 0
def mSt (Γ : mG) (A : Nat → Prop) (U : State) (H : Heap) : Prop :=
  va_Z RX3 "UNDER" "[I" (.ref (Γ.2.2 0)) A U H ∧ va_T .int (Γ.2.2 0) 8 (fun j => .int (mUN j)) A U H ∧ va_Z RX3 "ABOVE" "[I" (.ref (Γ.2.2 1)) A U H ∧ va_T .int (Γ.2.2 1) 8 (fun j => .int (mAB j)) A U H
theorem mSt.moved {Γ : mG} {A : Nat → Prop} {u U : State} {H : Heap} (hvm : u.vm.Alike U.vm) (h : mSt Γ A u H) : mSt Γ A U H := ⟨va_Z.moved hvm h.1, va_T.moved hvm h.2.1, va_Z.moved hvm h.2.2.1, va_T.moved hvm h.2.2.2⟩
theorem mSt.kept {Γ : mG} {A : Nat → Prop} {U : State} {H H1 : Heap} (h : mSt Γ A U H) (hq : ∀ a : Nat, a < H.size → ¬ A a → H1[a]? = H[a]?) : mSt Γ A U H1 := ⟨va_Z.kept h.1 hq, va_T.kept h.2.1 hq, va_Z.kept h.2.2.1 hq, va_T.kept h.2.2.2 hq⟩
theorem mSt.narrow {Γ : mG} {A B : Nat → Prop} {U : State} {H : Heap} (h : mSt Γ A U H) (hAB : ∀ q, B q → A q) : mSt Γ B U H := ⟨va_Z.narrow h.1 hAB, va_T.narrow h.2.1 hAB, va_Z.narrow h.2.2.1 hAB, va_T.narrow h.2.2.2 hAB⟩
def mK (Γ : mG) (U : State) : Prop := va_K Γ.1 vwCl (mTy Γ) U ∧ (∀ q ∈ mNest, va_Nw (.methodLinkNest q.1 q.2.1 q.2.2.1 q.2.2.2) U) ∧ va_AO RX0 U ∧ va_AO RX6 U
theorem mK.warm {Γ : mG} {s U : State} (hW : s.WarmedH U.vm) (h : mK Γ s) : mK Γ U := ⟨va_K.moved hW.alike h.1, fun q hq => va_Nw.warmM hW (h.2.1 q hq), va_AO.moved hW.alike h.2.2.1, va_AO.moved hW.alike h.2.2.2⟩
theorem mK.same {Γ : mG} {u U : State} (hv : u.vm = U.vm) (h : mK Γ u) : mK Γ U := by
  have ha : u.vm.Alike U.vm := by rw [hv]; exact Vm.Alike.refl _
  exact ⟨va_K.moved ha h.1, fun q hq => va_Nw.same rfl hv (h.2.1 q hq), va_AO.moved ha h.2.2.1, va_AO.moved ha h.2.2.2⟩
/-- a method's start -/
def mPre (Γ : mG) (As : List Value) (A : Nat → Prop) (sz : Nat) (L : mI → Nat) (M : mM) : Array Value → State → Prop :=
  va_Pc As (fun U => U.heap.size = sz ∧ (∀ q : Nat, sz ≤ q → A q) ∧ mW Γ.1 vwCl A L M U.heap ∧ mK Γ U ∧ mSt Γ A U U.heap)
theorem mPre.blind {Γ : mG} {As : List Value} {A : Nat → Prop} {sz : Nat} {L : mI → Nat} {M : mM} : FrameBlind (mPre Γ As A sz L M) := by
  intro a U g mk h
  obtain ⟨h0, h1, h2, h3, h4, h5⟩ := h
  exact ⟨h0, h1, h2, h3, mK.same (u := U) (U := U.calling g mk a) rfl h4, mSt.moved (u := U) (U := U.calling g mk a) (Vm.Alike.refl U.vm) h5⟩
abbrev mS : Type := (mI → Nat) × mM
def mB (Γ : mG) (A : Nat → Prop) (u : mS) (t : State) : Prop := mW Γ.1 vwCl A u.1 u.2 t.heap
/-- a contract: any world that holds L, M, any A that holds its addresses and the new ones -/
def mMet (Γ : mG) (l : Launch) (y : MethodName) (cc : ByteArray) (nL : Nat) (ret : Option FieldType) (rm : Room) (As : List Value) (L : mI → Nat) (M : mM) (Q : (Nat → Prop) → Array Value → State → Outcome → State → Prop) : Prop :=
  ∀ (A : Nat → Prop) (sz : Nat), Met l y (.code y cc nL ret :: gw) rm (mPre Γ As A sz L M) (Q A) rm.cells rm.slots A
def mQi (Γ : mG) (post : Int32 → (mI → Nat) → mM → Prop) (A : Nat → Prop) : Array Value → State → Outcome → State → Prop := va_Qi (fun r (u : mS) => post r u.1 u.2) (mB Γ A) A
def mQl (Γ : mG) (post : Int64 → (mI → Nat) → mM → Prop) (A : Nat → Prop) : Array Value → State → Outcome → State → Prop := va_Ql (fun r (u : mS) => post r u.1 u.2) (mB Γ A) A
def mQq (Γ : mG) (post : Option Nat → (mI → Nat) → mM → Prop) (A : Nat → Prop) : Array Value → State → Outcome → State → Prop := va_Qq (fun r (u : mS) => post r u.1 u.2) (mB Γ A) A
def mQv (Γ : mG) (post : (mI → Nat) → mM → Prop) (A : Nat → Prop) : Array Value → State → Outcome → State → Prop := va_Qv (fun (u : mS) => post u.1 u.2) (mB Γ A) A
def mX (Γ : mG) (p : Program) (m : MethodId) (c : Code) (cc : ByteArray) (nL : Nat) (s : State) (args : Array Value) (own : String) (A : Nat → Prop) : Prop :=
  CallFix p m c cc nL s args gw own ∧ mK Γ s ∧ mSt Γ A s s.heap ∧ ∀ q : Nat, s.heap.size ≤ q → A q
def bI (b : Bool) : Int32 := if b then 1 else 0
section MR
variable {p : Program} {l : Launch} {e : Env} {R : Room} {s : State} {m : MethodId} {args : Array Value} {below : List Frame} {meth : Method} {c : Code} {H : Heap} {locs : List Loc} {cells slots : Nat} {Q : State → Prop}
variable {cc : ByteArray} {pc nL : Nat} {ls : Array Slot} {rest : List Value} {Γ : mG} {A : Nat → Prop} {L : mI → Nat} {M : mM} {own : String}
theorem m_start {y : MethodName} {ret : Option FieldType} {rm : Room} {As : List Value} {Qp : (Nat → Prop) → Array Value → State → Outcome → State → Prop} (hy : plainName y.cls = true) (hlen : (lg_sl As).length ≤ nL)
    (body : ∀ (p : Program) (e : Env) (s : State) (m : MethodId) (args : Array Value) (below : List Frame) (meth : Method) (c : Code) (A : Nat → Prop) (ls : Array Slot), mX Γ p m c cc nL s args y.cls A → meth.sig.returnType = ret → meth.locks = false → meth.name = y.name → mW Γ.1 vwCl A L M s.heap → va_S A s.heap s.heap [] → lv_has ls nL (lv_args 0 As) →
      W p l e rm s m args below meth c s.heap [] 0 0 (MQ below (Qp A) args s rm.cells rm.slots A) (F0 m 0 ls [])) : mMet Γ l y cc nL ret rm As L M Qp := by
  intro A sz
  refine Met.ofW (cc := cc) (maxL := nL) (ret := ret) hy rfl ?_
  intro p e s m args below meth c s₁ B hml hv
  obtain ⟨rfl, hsz, hA, hw, hK, hst⟩ := hv
  have hts := atoms_spec (ws := .code y cc nL ret :: gw) B.pre
  have hl := lv_entry As (n := nL) hlen
  rw [lg_entry_eq]
  generalize (lg_sl As ++ List.replicate (nL - (lg_sl As).length) Slot.unset).toArray = ls at hl ⊢
  subst hsz
  exact body p e s m _ below meth c A ls ⟨⟨B.exec, B.bytes, hml, findClass_of_methodNamed B.named, fun w hw => hts w (List.mem_cons_of_mem _ hw)⟩, hK, hst, hA⟩ B.returns B.notSynchronized (name_of_methodNamed B.named B.method).1 hw va_S.rf hl
theorem m_iret {mc ms : Nat} {v : Int32} {post : Int32 → (mI → Nat) → mM → Prop} (X : mX Γ p m c cc nL s args own A) (hr : meth.sig.returnType = some .int) (hlk : meth.locks = false) (hw : mW Γ.1 vwCl A L M H) (hS : va_S A s.heap H locs) (hc : cells ≤ mc) (hs : slots ≤ ms) (hp : post v L M) (hdg : decode cc pc = .ok (.ireturn, 1)) :
    W p l e R s m args below meth c H locs cells slots (MQ below (mQi Γ post A) args s mc ms A) (F0 m pc ls [.int v]) := by
  refine W.widen (k := mc) (n := ms) hc hs ?_
  exact W.iret X.1.1 X.1.2.1 hr (fun t ht hW => ⟨⟨v, (L, M), rfl, hp, by show mW _ _ _ _ _ _; rw [ht]; exact hw⟩, hS.F ht⟩) hS.2.2 hdg
theorem m_zret {mc ms : Nat} {b : Bool} {v : Int32} {post : Int32 → (mI → Nat) → mM → Prop} (X : mX Γ p m c cc nL s args own A) (hr : meth.sig.returnType = some .boolean) (hlk : meth.locks = false) (hw : mW Γ.1 vwCl A L M H) (hS : va_S A s.heap H locs) (hc : cells ≤ mc) (hs : slots ≤ ms) (hv : v = bI b) (hp : post (bI b) L M) (hdg : decode cc pc = .ok (.ireturn, 1)) :
    W p l e R s m args below meth c H locs cells slots (MQ below (mQi Γ post A) args s mc ms A) (F0 m pc ls [.int v]) := by
  subst hv
  refine W.widen (k := mc) (n := ms) hc hs ?_
  exact W.zret X.1.1 X.1.2.1 hr (by cases b <;> rfl) (fun t ht hW => ⟨⟨bI b, (L, M), rfl, hp, by show mW _ _ _ _ _ _; rw [ht]; exact hw⟩, hS.F ht⟩) hS.2.2 hdg
theorem m_lret {mc ms : Nat} {v : Int64} {post : Int64 → (mI → Nat) → mM → Prop} (X : mX Γ p m c cc nL s args own A) (hr : meth.sig.returnType = some .long) (hlk : meth.locks = false) (hw : mW Γ.1 vwCl A L M H) (hS : va_S A s.heap H locs) (hc : cells ≤ mc) (hs : slots ≤ ms) (hp : post v L M) (hdg : decode cc pc = .ok (.lreturn, 1)) :
    W p l e R s m args below meth c H locs cells slots (MQ below (mQl Γ post A) args s mc ms A) (F0 m pc ls [.long v]) := by
  refine W.widen (k := mc) (n := ms) hc hs ?_
  exact W.lret X.1.1 X.1.2.1 hr (fun t ht hW => ⟨⟨v, (L, M), rfl, hp, by show mW _ _ _ _ _ _; rw [ht]; exact hw⟩, hS.F ht⟩) hS.2.2 hdg
theorem m_vret {mc ms : Nat} {post : (mI → Nat) → mM → Prop} (X : mX Γ p m c cc nL s args own A) (hr : meth.sig.returnType = none) (hlk : meth.locks = false) (hw : mW Γ.1 vwCl A L M H) (hS : va_S A s.heap H locs) (hc : cells ≤ mc) (hs : slots ≤ ms) (hp : post L M) (hdg : decode cc pc = .ok (.return_, 1)) :
    W p l e R s m args below meth c H locs cells slots (MQ below (mQv Γ post A) args s mc ms A) (F0 m pc ls []) := by
  refine W.widen (k := mc) (n := ms) hc hs ?_
  exact W.vret X.1.1 X.1.2.1 hr (fun t ht hW => ⟨⟨(L, M), rfl, hp, by show mW _ _ _ _ _ _; rw [ht]; exact hw⟩, hS.F ht⟩) hS.2.2 hdg
theorem m_qret {mc ms : Nat} {v : Option Nat} {C : String} {post : Option Nat → (mI → Nat) → mM → Prop} (X : mX Γ p m c cc nL s args own A) (hr : meth.sig.returnType = some (.object C)) (hlk : meth.locks = false) (hw : mW Γ.1 vwCl A L M H) (hS : va_S A s.heap H locs) (hc : cells ≤ mc) (hs : slots ≤ ms) (hp : post v L M) (hdg : decode cc pc = .ok (.areturn, 1)) :
    W p l e R s m args below meth c H locs cells slots (MQ below (mQq Γ post A) args s mc ms A) (F0 m pc ls [va_rf v]) := by
  refine W.widen (k := mc) (n := ms) hc hs ?_
  exact W.aret X.1.1 X.1.2.1 hr (Or.inl ⟨_, rfl⟩) (va_rf_or v) (fun t ht hW => ⟨⟨v, (L, M), rfl, hp, by show mW _ _ _ _ _ _; rw [ht]; exact hw⟩, hS.F ht⟩) hS.2.2 hdg
/-- what a caller may give to its callee -/
theorem m_pre {y : MethodName} {As : List Value} (X : mX Γ p m c cc nL s args own A) (hw : mW Γ.1 vwCl A L M H) (hS : va_S A s.heap H locs) (U : State) (hU : U.heap = H) (hW : s.WarmedH U.vm) : mPre Γ As A H.size L M As.toArray U := by
  refine ⟨rfl, by rw [hU], fun q hq => X.2.2.2 q (Nat.le_trans hS.1 hq), by rw [hU]; exact hw, X.2.1.warm hW, ?_⟩
  rw [hU]
  exact mSt.moved hW.alike (mSt.kept X.2.2.1 hS.2.1)
/-- a callee's own words: static -/
def mSm (y : MethodName) (cc : ByteArray) (nL : Nat) (ret : Option FieldType) (n : Nat) : Prop := Cond.code y cc nL ret ∈ gw ∧ Cond.static y ∈ gw ∧ Cond.initialized y.cls ∈ gw ∧ y.cls ≠ "java/lang/invoke/MethodHandle" ∧ y.cls ≠ "java/lang/invoke/VarHandle" ∧ (parseMethodDescriptor y.desc).map (fun d => d.parameters.length) = some n
/-- a callee's own words: of an object -/
def mVm (y : MethodName) (cc : ByteArray) (nL : Nat) (ret : Option FieldType) (n : Nat) : Prop := Cond.code y cc nL ret ∈ gw ∧ Cond.instanceMethod y ∈ gw ∧ Cond.selects y.cls y y ∈ gw ∧ Cond.initialized y.cls ∈ gw ∧ y.cls ≠ "java/lang/invoke/MethodHandle" ∧ y.cls ≠ "java/lang/invoke/VarHandle" ∧ (parseMethodDescriptor y.desc).map (fun d => d.parameters.length) = some n
/-- a constructor's own words -/
def mIm (y : MethodName) (cc : ByteArray) (nL : Nat) (n : Nat) : Prop := Cond.code y cc nL none ∈ gw ∧ Cond.instanceMethod y ∈ gw ∧ Cond.initialized y.cls ∈ gw ∧ y.name = "<init>" ∧ y.cls ≠ "java/lang/invoke/MethodHandle" ∧ y.cls ≠ "java/lang/invoke/VarHandle" ∧ (parseMethodDescriptor y.desc).map (fun d => d.parameters.length) = some n
variable {y : MethodName} {cy : ByteArray} {ny n index : Nat} {ret : Option FieldType} {rm : Room} {As : List Value} {Qp : (Nat → Prop) → Array Value → State → Outcome → State → Prop}
theorem m_runS (X : mX Γ p m c cc nL s args own A) (hM : mMet Γ l y cy ny ret rm As L M Qp) (hy : mSm y cy ny ret n) (hl : Cond.methodLink own index y ∈ gw) (hw : mW Γ.1 vwCl A L M H) (hS : va_S A s.heap H locs) (hn : As.length = n) (hsz : ls.size = nL) (hrm : rm.frames + 1 ≤ R.frames ∧ 8 + (ny + 11) + rm.locals ≤ R.locals) (hrest : (rest.map fun v => v.category).sum ≤ 8) (hcs : cells + rm.cells ≤ R.cells ∧ slots + rm.slots ≤ R.slots) (hdg : decode cc pc = .ok (.invokestatic index, 3)) :
    va_Run p l e R s m args below meth c H locs cells slots rm.cells rm.slots (F0 m pc ls (As.reverse ++ rest)) rest (Qp A As.toArray) A := by
  obtain ⟨h1, h2, h3, h4, h5, h6⟩ := hy
  have ht := X.1.2.2.2.2
  exact va_runS X.1 (hM A H.size) ⟨callB_of n ht (gw_good h1) rfl rfl rfl (ht _ h3) (ht _ hl) ⟨h4, h5, h6⟩ hrm, ht _ h2⟩ ⟨mPre.blind, fun U hU hW => m_pre (y := y) X hw hS U hU hW⟩ rfl hn hsz rfl (lv_room hrest) hdg hcs
theorem m_runV {i : mI} {ci : Nat} {fs : List Value} {q : vw_C} (X : mX Γ p m c cc nL s args own A) (hM : mMet Γ l y cy ny ret rm (.ref (L i) :: As) L M Qp) (hy : mVm y cy ny ret n) (hl : Cond.methodLink own index y ∈ gw) (hw : mW Γ.1 vwCl A L M H) (hS : va_S A s.heap H locs) (hi : mget M i = some (.inr (ci, fs))) (hc : vwCl[ci]? = some q) (hq : q.1 = y.cls) (hn : As.length = n) (hsz : ls.size = nL) (hrm : rm.frames + 1 ≤ R.frames ∧ 8 + (ny + 11) + rm.locals ≤ R.locals) (hrest : (rest.map fun v => v.category).sum ≤ 8) (hcs : cells + rm.cells ≤ R.cells ∧ slots + rm.slots ≤ R.slots) (hdg : decode cc pc = .ok (.invokevirtual index, 3)) :
    va_Run p l e R s m args below meth c H locs cells slots rm.cells rm.slots (F0 m pc ls (As.reverse ++ .ref (L i) :: rest)) rest (Qp A (Value.ref (L i) :: As).toArray) A := by
  obtain ⟨h1, h2, h3, h4, h5, h6, h7⟩ := hy
  have ht := X.1.2.2.2.2
  obtain ⟨ws, hP, hD, w3, w4⟩ := id hw
  obtain ⟨k, hk⟩ := w3 i _ hi
  have hrecv := va_recv X.2.1.1 hP hc hk
  rw [hq] at hrecv
  exact va_runV X.1 (hM A H.size) ⟨callB_of n ht (gw_good h1) rfl rfl rfl (ht _ h4) (ht _ hl) ⟨h5, h6, h7⟩ hrm, ht _ h2, ht _ h3⟩ ⟨mPre.blind, hrecv, fun U hU hW => m_pre (y := y) X hw hS U hU hW⟩ rfl hn hsz rfl (lv_room hrest) hdg hcs
theorem m_runI {b : Nat} (X : mX Γ p m c cc nL s args own A) (hM : mMet Γ l y cy ny none rm (.ref b :: As) L M Qp) (hy : mIm y cy ny n) (hl : Cond.methodLink own index y ∈ gw) (hw : mW Γ.1 vwCl A L M H) (hS : va_S A s.heap H locs) (hn : As.length = n) (hsz : ls.size = nL) (hrm : rm.frames + 1 ≤ R.frames ∧ 8 + (ny + 11) + rm.locals ≤ R.locals) (hrest : (rest.map fun v => v.category).sum ≤ 8) (hcs : cells + rm.cells ≤ R.cells ∧ slots + rm.slots ≤ R.slots) (hdg : decode cc pc = .ok (.invokespecial index, 3)) :
    va_Run p l e R s m args below meth c H locs cells slots rm.cells rm.slots (F0 m pc ls (As.reverse ++ .ref b :: rest)) rest (Qp A (Value.ref b :: As).toArray) A := by
  obtain ⟨h1, h2, h3, h4, h5, h6, h7⟩ := hy
  have ht := X.1.2.2.2.2
  exact va_runI X.1 (hM A H.size) ⟨callB_of n ht (gw_good h1) rfl rfl rfl (ht _ h3) (ht _ hl) ⟨h5, h6, h7⟩ hrm, h4, ht _ h2⟩ ⟨mPre.blind, fun U hU hW => m_pre (y := y) X hw hS U hU hW⟩ rfl hn hsz rfl (lv_room hrest) hdg hcs
theorem m_runIN {b : Nat} {host : String} (X : mX Γ p m c cc nL s args own A) (hM : mMet Γ l y cy ny none rm (.ref b :: As) L M Qp) (hy : mIm y cy ny n) (hl : (own, index, y, host) ∈ mNest) (hw : mW Γ.1 vwCl A L M H) (hS : va_S A s.heap H locs) (hn : As.length = n) (hsz : ls.size = nL) (hrm : rm.frames + 1 ≤ R.frames ∧ 8 + (ny + 11) + rm.locals ≤ R.locals) (hrest : (rest.map fun v => v.category).sum ≤ 8) (hcs : cells + rm.cells ≤ R.cells ∧ slots + rm.slots ≤ R.slots) (hdg : decode cc pc = .ok (.invokespecial index, 3)) :
    va_Run p l e R s m args below meth c H locs cells slots rm.cells rm.slots (F0 m pc ls (As.reverse ++ .ref b :: rest)) rest (Qp A (Value.ref b :: As).toArray) A := by
  obtain ⟨h1, h2, h3, h4, h5, h6, h7⟩ := hy
  have ht := X.1.2.2.2.2
  exact va_runIN X.1 (hM A H.size) ⟨va_cnB n ht (gw_good h1) rfl rfl rfl (X.2.1.2.1 _ hl) (ht _ h3) ⟨h5, h6, h7⟩ hrm, h4, ht _ h2⟩ ⟨mPre.blind, fun U hU hW => m_pre (y := y) X hw hS U hU hW⟩ rfl hn hsz rfl (lv_room hrest) hdg hcs
variable {st0 : List Value} {a : Array Value} {mc ms : Nat}
theorem m_calli {post : Int32 → (mI → Nat) → mM → Prop} (hr : va_Run p l e R s m args below meth c H locs cells slots mc ms (F0 m pc ls st0) rest (mQi Γ post A a) A) (hS : va_S A s.heap H locs)
    (kk : ∀ (r : Int32) (L1 : mI → Nat) (M1 : mM) (H1 : Heap) (locs1 : List Loc), post r L1 M1 → mW Γ.1 vwCl A L1 M1 H1 → va_S A s.heap H1 locs1 → W p l e R s m args below meth c H1 locs1 (cells + mc) (slots + ms) Q (F0 m (pc + 3) ls (.int r :: rest))) : W p l e R s m args below meth c H locs cells slots Q (F0 m pc ls st0) :=
  va_calli hr hS (fun _ _ h => h) (fun _ h => h) (fun r u t H1 locs1 ht _ hp hB _ _ hS1 => kk r u.1 u.2 H1 locs1 hp (by rw [← ht]; exact hB) hS1)
theorem m_calll {post : Int64 → (mI → Nat) → mM → Prop} (hr : va_Run p l e R s m args below meth c H locs cells slots mc ms (F0 m pc ls st0) rest (mQl Γ post A a) A) (hS : va_S A s.heap H locs)
    (kk : ∀ (r : Int64) (L1 : mI → Nat) (M1 : mM) (H1 : Heap) (locs1 : List Loc), post r L1 M1 → mW Γ.1 vwCl A L1 M1 H1 → va_S A s.heap H1 locs1 → W p l e R s m args below meth c H1 locs1 (cells + mc) (slots + ms) Q (F0 m (pc + 3) ls (.long r :: rest))) : W p l e R s m args below meth c H locs cells slots Q (F0 m pc ls st0) :=
  va_calll hr hS (fun _ _ h => h) (fun _ h => h) (fun r u t H1 locs1 ht _ hp hB _ _ hS1 => kk r u.1 u.2 H1 locs1 hp (by rw [← ht]; exact hB) hS1)
theorem m_callq {post : Option Nat → (mI → Nat) → mM → Prop} (hr : va_Run p l e R s m args below meth c H locs cells slots mc ms (F0 m pc ls st0) rest (mQq Γ post A a) A) (hS : va_S A s.heap H locs)
    (kk : ∀ (r : Option Nat) (L1 : mI → Nat) (M1 : mM) (H1 : Heap) (locs1 : List Loc), post r L1 M1 → mW Γ.1 vwCl A L1 M1 H1 → va_S A s.heap H1 locs1 → W p l e R s m args below meth c H1 locs1 (cells + mc) (slots + ms) Q (F0 m (pc + 3) ls (va_rf r :: rest))) : W p l e R s m args below meth c H locs cells slots Q (F0 m pc ls st0) :=
  va_callq hr hS (fun _ _ h => h) (fun _ h => h) (fun r u t H1 locs1 ht _ hp hB _ _ hS1 => kk r u.1 u.2 H1 locs1 hp (by rw [← ht]; exact hB) hS1)
theorem m_callv {post : (mI → Nat) → mM → Prop} (hr : va_Run p l e R s m args below meth c H locs cells slots mc ms (F0 m pc ls st0) rest (mQv Γ post A a) A) (hS : va_S A s.heap H locs)
    (kk : ∀ (L1 : mI → Nat) (M1 : mM) (H1 : Heap) (locs1 : List Loc), post L1 M1 → mW Γ.1 vwCl A L1 M1 H1 → va_S A s.heap H1 locs1 → W p l e R s m args below meth c H1 locs1 (cells + mc) (slots + ms) Q (F0 m (pc + 3) ls rest)) : W p l e R s m args below meth c H locs cells slots Q (F0 m pc ls st0) :=
  va_callv hr hS (fun _ _ h => h) (fun _ h => h) (fun u t H1 locs1 ht _ hp hB _ _ hS1 => kk u.1 u.2 H1 locs1 hp (by rw [← ht]; exact hB) hS1)
end MR
end
section
/-! INSTRUCTIONS OVER THE MEMORY BY NAMES -/
section MI
variable {p : Program} {l : Launch} {e : Env} {R : Room} {s : State} {m : MethodId} {args : Array Value} {below : List Frame} {meth : Method} {c : Code} {H : Heap} {locs : List Loc} {cells slots : Nat} {Q : State → Prop}
variable {cc : ByteArray} {pc nL : Nat} {ls : Array Slot} {rest : List Value} {Γ : mG} {A : Nat → Prop} {L : mI → Nat} {M : mM} {own : String} {i : mI}
theorem m_get {C ref : String} {T : u_T} {N ci index : Nat} {fs : List Value} {v : Value} (X : mX Γ p m c cc nL s args own A) (hw : mW Γ.1 vwCl A L M H) (hi : mget M i = some (.inr (ci, fs))) (hc : vwCl[ci]? = some (C, T, N)) (hin : ∀ w ∈ u_ws C T N, w ∈ gw) (k : Nat) (hk : k < N) (hlink : Cond.fieldLink own index ref (T k).2.1 (T k).2.2.1 ∈ gw) (hself : (T k).1 = ref) (hv : fs[k]? = some v) (hdg : decode cc pc = .ok (.getfield index, 3))
    (kk : W p l e R s m args below meth c H locs cells slots Q (F0 m (pc + 3) ls (v :: rest))) : W p l e R s m args below meth c H locs cells slots Q (F0 m pc ls (.ref (L i) :: rest)) := by
  obtain ⟨ws, hP, hD, h3, h4⟩ := hw
  obtain ⟨k0, hk0⟩ := h3 i _ hi
  have ht := X.1.2.2.2.2
  exact va_get X.1.1 X.1.2.1 ht hin X.1.2.2.2.1 X.2.1.1 hP k0 hk0 hc k hk (ht _ hlink) (fun x h => by rw [← hself]; exact h) hv hdg kk
theorem m_put {C ref : String} {T : u_T} {N ci index : Nat} {fs : List Value} {v : Value} {ty : FieldType} (X : mX Γ p m c cc nL s args own A) (hw : mW Γ.1 vwCl A L M H) (hS : va_S A s.heap H locs) (hi : mget M i = some (.inr (ci, fs))) (hc : vwCl[ci]? = some (C, T, N)) (hin : ∀ w ∈ u_ws C T N, w ∈ gw) (ty0 : Nat → FieldType) (hty : ∀ k, k < N → parseFieldDescriptor (T k).2.2.1 = some (ty0 k)) (hnm : ∀ a, a < N → ∀ b, b < N → a ≠ b → (T a).2.1 ≠ (T b).2.1) (k : Nat) (hk : k < N) (hlink : Cond.fieldLink own index ref (T k).2.1 (T k).2.2.1 ∈ gw) (hself : (T k).1 = ref) (hfin : (T k).2.2.2 = false) (hd : parseFieldDescriptor (T k).2.2.1 = some ty) (hn : narrow ty v = v) (hfit : fits ty v = true) (hl : k < fs.length) (hdg : decode cc pc = .ok (.putfield index, 3))
    (kk : ∀ (H1 : Heap) (locs1 : List Loc), mW Γ.1 vwCl A L (mset M i (.inr (ci, fs.set k v))) H1 → va_S A s.heap H1 locs1 → W p l e R s m args below meth c H1 locs1 cells slots Q (F0 m (pc + 3) ls rest)) : W p l e R s m args below meth c H locs cells slots Q (F0 m pc ls (v :: .ref (L i) :: rest)) := by
  obtain ⟨ws, hP, hD, h3, h4⟩ := hw
  obtain ⟨k0, hk0⟩ := h3 i _ hi
  have ht := X.1.2.2.2.2
  exact va_put X.1.1 X.1.2.1 ht hin ty0 hty hnm X.1.2.2.2.1 X.2.1.1 hP hD hS k0 hk0 hc k hk (ht _ hlink) (fun x h => by rw [← hself]; exact h) hfin hd hn hfit hl hdg (fun H1 locs1 hP1 hD1 hS1 => kk H1 locs1 (mW.set hk0 hi h3 h4 hP1 hD1) hS1)
theorem m_putF {C ref : String} {T : u_T} {N ci index : Nat} {fs : List Value} {v : Value} {ty : FieldType} (X : mX Γ p m c cc nL s args own A) (hw : mW Γ.1 vwCl A L M H) (hS : va_S A s.heap H locs) (hi : mget M i = some (.inr (ci, fs))) (hc : vwCl[ci]? = some (C, T, N)) (hin : ∀ w ∈ u_ws C T N, w ∈ gw) (ty0 : Nat → FieldType) (hty : ∀ k, k < N → parseFieldDescriptor (T k).2.2.1 = some (ty0 k)) (hnm : ∀ a, a < N → ∀ b, b < N → a ≠ b → (T a).2.1 ≠ (T b).2.1) (k : Nat) (hk : k < N) (hlink : Cond.fieldLink own index ref (T k).2.1 (T k).2.2.1 ∈ gw) (hself : (T k).1 = ref) (hfin : (T k).2.2.2 = true) (hinit : meth.name = "<init>") (hdecl : (T k).1 = own) (hd : parseFieldDescriptor (T k).2.2.1 = some ty) (hn : narrow ty v = v) (hfit : fits ty v = true) (hl : k < fs.length) (hdg : decode cc pc = .ok (.putfield index, 3))
    (kk : ∀ (H1 : Heap) (locs1 : List Loc), mW Γ.1 vwCl A L (mset M i (.inr (ci, fs.set k v))) H1 → va_S A s.heap H1 locs1 → W p l e R s m args below meth c H1 locs1 cells slots Q (F0 m (pc + 3) ls rest)) : W p l e R s m args below meth c H locs cells slots Q (F0 m pc ls (v :: .ref (L i) :: rest)) := by
  obtain ⟨ws, hP, hD, h3, h4⟩ := hw
  obtain ⟨k0, hk0⟩ := h3 i _ hi
  have ht := X.1.2.2.2.2
  exact va_putF X.1.1 X.1.2.1 ht hin ty0 hty hnm X.1.2.2.2.1 X.2.1.1 hP hD hS k0 hk0 hc k hk (ht _ hlink) (fun x h => by rw [← hself]; exact h) hfin hinit hdecl hd hn hfit hl hdg (fun H1 locs1 hP1 hD1 hS1 => kk H1 locs1 (mW.set hk0 hi h3 h4 hP1 hD1) hS1)
theorem m_iald {n : Nat} {f : Nat → Int32} {x : Int32} (X : mX Γ p m c cc nL s args own A) (hw : mW Γ.1 vwCl A L M H) (hi : mget M i = some (.inl (Γ.2.1 0, n, .inl f))) (hin : vp_in x n) (hdg : decode cc pc = .ok (.iaload, 1))
    (kk : W p l e R s m args below meth c H locs cells slots Q (F0 m (pc + 1) ls (.int (f x.toNatClampNeg) :: rest))) : W p l e R s m args below meth c H locs cells slots Q (F0 m pc ls (.int x :: .ref (L i) :: rest)) := by
  obtain ⟨ws, hP, hD, h3, h4⟩ := hw
  obtain ⟨k0, hk0⟩ := h3 i _ hi
  exact va_iald X.1.1 X.1.2.1 X.2.1.1 hP k0 0 hk0 rfl hin hdg kk
theorem m_lald {n : Nat} {f : Nat → Int64} {x : Int32} (X : mX Γ p m c cc nL s args own A) (hw : mW Γ.1 vwCl A L M H) (hi : mget M i = some (.inl (Γ.2.1 1, n, .inr (.inl f)))) (hin : vp_in x n) (hdg : decode cc pc = .ok (.laload, 1))
    (kk : W p l e R s m args below meth c H locs cells slots Q (F0 m (pc + 1) ls (.long (f x.toNatClampNeg) :: rest))) : W p l e R s m args below meth c H locs cells slots Q (F0 m pc ls (.int x :: .ref (L i) :: rest)) := by
  obtain ⟨ws, hP, hD, h3, h4⟩ := hw
  obtain ⟨k0, hk0⟩ := h3 i _ hi
  exact va_lald X.1.1 X.1.2.1 X.2.1.1 hP k0 1 hk0 rfl hin hdg kk
theorem m_zald {n : Nat} {f : Nat → Int32} {x : Int32} (X : mX Γ p m c cc nL s args own A) (hw : mW Γ.1 vwCl A L M H) (hi : mget M i = some (.inl (Γ.2.1 2, n, .inl f))) (hin : vp_in x n) (hdg : decode cc pc = .ok (.baload, 1))
    (kk : W p l e R s m args below meth c H locs cells slots Q (F0 m (pc + 1) ls (.int (f x.toNatClampNeg) :: rest))) : W p l e R s m args below meth c H locs cells slots Q (F0 m pc ls (.int x :: .ref (L i) :: rest)) := by
  obtain ⟨ws, hP, hD, h3, h4⟩ := hw
  obtain ⟨k0, hk0⟩ := h3 i _ hi
  exact va_zald X.1.1 X.1.2.1 X.2.1.1 hP k0 2 hk0 rfl hin hdg kk
theorem m_aald {n t : Nat} {C : String} {f : Nat → Option Nat} {x : Int32} (X : mX Γ p m c cc nL s args own A) (hw : mW Γ.1 vwCl A L M H) (ht : (mTy Γ)[t]? = some (Γ.2.1 t, .object C)) (hi : mget M i = some (.inl (Γ.2.1 t, n, .inr (.inr (.inr (.inr f)))))) (hin : vp_in x n) (hdg : decode cc pc = .ok (.aaload, 1))
    (kk : W p l e R s m args below meth c H locs cells slots Q (F0 m (pc + 1) ls (va_rf (f x.toNatClampNeg) :: rest))) : W p l e R s m args below meth c H locs cells slots Q (F0 m pc ls (.int x :: .ref (L i) :: rest)) := by
  obtain ⟨ws, hP, hD, h3, h4⟩ := hw
  obtain ⟨k0, hk0⟩ := h3 i _ hi
  exact va_aldq X.1.1 X.1.2.1 X.2.1.1 hP k0 t hk0 ht hin hdg kk
theorem m_iast {n : Nat} {f : Nat → Int32} {x v : Int32} (X : mX Γ p m c cc nL s args own A) (hw : mW Γ.1 vwCl A L M H) (hS : va_S A s.heap H locs) (hi : mget M i = some (.inl (Γ.2.1 0, n, .inl f))) (hin : vp_in x n) (hdg : decode cc pc = .ok (.iastore, 1))
    (kk : ∀ (H1 : Heap) (locs1 : List Loc), mW Γ.1 vwCl A L (mset M i (.inl (Γ.2.1 0, n, .inl (upd f x.toNatClampNeg v)))) H1 → va_S A s.heap H1 locs1 → W p l e R s m args below meth c H1 locs1 cells slots Q (F0 m (pc + 1) ls rest)) : W p l e R s m args below meth c H locs cells slots Q (F0 m pc ls (.int v :: .int x :: .ref (L i) :: rest)) := by
  obtain ⟨ws, hP, hD, h3, h4⟩ := hw
  obtain ⟨k0, hk0⟩ := h3 i _ hi
  exact va_iast X.1.1 X.1.2.1 X.2.1.1 hP hD hS k0 0 hk0 rfl hin hdg (fun H1 locs1 hP1 hD1 hS1 => kk H1 locs1 (mW.set hk0 hi h3 h4 hP1 hD1) hS1)
theorem m_zast {n : Nat} {f : Nat → Int32} {x v : Int32} (X : mX Γ p m c cc nL s args own A) (hw : mW Γ.1 vwCl A L M H) (hS : va_S A s.heap H locs) (hi : mget M i = some (.inl (Γ.2.1 2, n, .inl f))) (hin : vp_in x n) (hdg : decode cc pc = .ok (.bastore, 1))
    (kk : ∀ (H1 : Heap) (locs1 : List Loc), mW Γ.1 vwCl A L (mset M i (.inl (Γ.2.1 2, n, .inl (upd f x.toNatClampNeg (vp_nar .boolean v))))) H1 → va_S A s.heap H1 locs1 → W p l e R s m args below meth c H1 locs1 cells slots Q (F0 m (pc + 1) ls rest)) : W p l e R s m args below meth c H locs cells slots Q (F0 m pc ls (.int v :: .int x :: .ref (L i) :: rest)) := by
  obtain ⟨ws, hP, hD, h3, h4⟩ := hw
  obtain ⟨k0, hk0⟩ := h3 i _ hi
  exact va_zast X.1.1 X.1.2.1 X.2.1.1 hP hD hS k0 2 hk0 rfl hin hdg (fun H1 locs1 hP1 hD1 hS1 => kk H1 locs1 (mW.set hk0 hi h3 h4 hP1 hD1) hS1)
theorem m_last {n : Nat} {f : Nat → Int64} {x : Int32} {v : Int64} (X : mX Γ p m c cc nL s args own A) (hw : mW Γ.1 vwCl A L M H) (hS : va_S A s.heap H locs) (hi : mget M i = some (.inl (Γ.2.1 1, n, .inr (.inl f)))) (hin : vp_in x n) (hdg : decode cc pc = .ok (.lastore, 1))
    (kk : ∀ (H1 : Heap) (locs1 : List Loc), mW Γ.1 vwCl A L (mset M i (.inl (Γ.2.1 1, n, .inr (.inl (vp_updL f x.toNatClampNeg v))))) H1 → va_S A s.heap H1 locs1 → W p l e R s m args below meth c H1 locs1 cells slots Q (F0 m (pc + 1) ls rest)) : W p l e R s m args below meth c H locs cells slots Q (F0 m pc ls (.long v :: .int x :: .ref (L i) :: rest)) := by
  obtain ⟨ws, hP, hD, h3, h4⟩ := hw
  obtain ⟨k0, hk0⟩ := h3 i _ hi
  exact va_last X.1.1 X.1.2.1 X.2.1.1 hP hD hS k0 1 hk0 rfl hin hdg (fun H1 locs1 hP1 hD1 hS1 => kk H1 locs1 (mW.set hk0 hi h3 h4 hP1 hD1) hS1)
theorem m_aast {n t ci : Nat} {j : mI} {q : vw_C} {f : Nat → Option Nat} {fs : List Value} {x : Int32} (X : mX Γ p m c cc nL s args own A) (hw : mW Γ.1 vwCl A L M H) (hS : va_S A s.heap H locs) (ht : (mTy Γ)[t]? = some (Γ.2.1 t, .object q.1)) (hi : mget M i = some (.inl (Γ.2.1 t, n, .inr (.inr (.inr (.inr f)))))) (hj : mget M j = some (.inr (ci, fs))) (hc : vwCl[ci]? = some q) (hin : vp_in x n) (hdg : decode cc pc = .ok (.aastore, 1))
    (kk : ∀ (H1 : Heap) (locs1 : List Loc), mW Γ.1 vwCl A L (mset M i (.inl (Γ.2.1 t, n, .inr (.inr (.inr (.inr (va_up f x.toNatClampNeg (some (L j)))))))))  H1 → va_S A s.heap H1 locs1 → W p l e R s m args below meth c H1 locs1 cells slots Q (F0 m (pc + 1) ls rest)) : W p l e R s m args below meth c H locs cells slots Q (F0 m pc ls (.ref (L j) :: .int x :: .ref (L i) :: rest)) := by
  obtain ⟨ws, hP, hD, h3, h4⟩ := hw
  obtain ⟨k0, hk0⟩ := h3 i _ hi
  obtain ⟨k1, hk1⟩ := h3 j _ hj
  exact va_astq X.1.1 X.1.2.1 X.2.1.1 hP hD hS k0 t k1 ci hk0 ht hk1 hc hin hdg (fun H1 locs1 hP1 hD1 hS1 => kk H1 locs1 (mW.set hk0 hi h3 h4 hP1 hD1) hS1)
theorem m_new {C : String} {T : u_T} {N ci index : Nat} {fs : List Value} {M' : mM} (X : mX Γ p m c cc nL s args own A) (hw : mW Γ.1 vwCl A L M H) (hS : va_S A s.heap H locs) (i : mI) (hc : vwCl[ci]? = some (C, T, N)) (hin : ∀ w ∈ u_ws C T N, w ∈ gw) (ty : Nat → FieldType) (hty : ∀ k, k < N → parseFieldDescriptor (T k).2.2.1 = some (ty k)) (hcl : Cond.classLink own index C ∈ gw) (hins : Cond.instantiable C N ∈ gw) (hini : Cond.initialized C ∈ gw) (hfs : ∀ j, j < N → defaultValue (ty j) = vp_V fs j) (h1 : mget M' i = some (.inr (ci, fs))) (h2 : ∀ j, j ≠ i → mget M' j = mget M j) (hcells : cells + 1 ≤ R.cells) (hslots : slots + N ≤ R.slots) (hdg : decode cc pc = .ok (.new index, 3))
    (kk : ∀ (q : Nat) (H1 : Heap), mW Γ.1 vwCl A (updI L i q) M' H1 → va_S A s.heap H1 locs → W p l e R s m args below meth c H1 locs (cells + 1) (slots + N) Q (F0 m (pc + 3) ls (.ref q :: rest))) : W p l e R s m args below meth c H locs cells slots Q (F0 m pc ls rest) := by
  obtain ⟨ws, hP, hD, h3, h4⟩ := hw
  have ht := X.1.2.2.2.2
  exact va_new X.1.1 X.1.2.1 ht hin ty hty X.1.2.2.2.1 (ht _ hcl) (ht _ hins) (ht _ hini) X.2.1.1 hP hD hS X.2.2.2 hc hfs hcells hslots hdg (fun q H1 hP1 hD1 hS1 => kk q H1 (mW.grow h3 h4 hP1 hD1 h1 h2) hS1)
theorem m_newa {atype : ArrayType} {ty : FieldType} {t N' : Nat} {n : Int32} {a0 : vp_A} {M' : mM} (X : mX Γ p m c cc nL s args own A) (hw : mW Γ.1 vwCl A L M H) (hS : va_S A s.heap H locs) (i : mI) (ht : (mTy Γ)[t]? = some (Γ.2.1 t, ty)) (hty : newarray.typeOf atype = ty) (hra : ∀ (U : State) (cA : ClassId), va_RA U cA ty → U.vm.findClass ("[" ++ ty.toString) = some cA) (hac : Cond.arrayClass ty ∈ gw) (ha : ∀ cA : ClassId, vp_cell cA a0 = arrV cA N' (fun _ => defaultValue ty)) (hn : ¬ n < 0) (hN : n.toNatClampNeg = N') (hbytes : N' * componentBytes ty ≤ 536870912) (h1 : mget M' i = some (.inl (Γ.2.1 t, a0))) (h2 : ∀ j, j ≠ i → mget M' j = mget M j) (hcells : cells + 1 ≤ R.cells) (hslots : slots + N' ≤ R.slots) (hdg : decode cc pc = .ok (.newarray atype, 2))
    (kk : ∀ (q : Nat) (H1 : Heap), mW Γ.1 vwCl A (updI L i q) M' H1 → va_S A s.heap H1 locs → W p l e R s m args below meth c H1 locs (cells + 1) (slots + N') Q (F0 m (pc + 2) ls (.ref q :: rest))) : W p l e R s m args below meth c H locs cells slots Q (F0 m pc ls (.int n :: rest)) := by
  obtain ⟨ws, hP, hD, h3, h4⟩ := hw
  have hts := X.1.2.2.2.2
  refine va_newa X.1.1 X.1.2.1 (by rw [hty]; exact hts _ hac) hty X.2.1.1 hP hD hS X.2.2.2 ha hn hN hbytes hcells hslots hdg (fun q cA H1 hK1 hP1 hD1 hS1 => ?_)
  have e : cA = Γ.2.1 t := by
    have z1 := hra s cA (hK1.2 (mTy Γ).length (cA, ty) (by simp)).2
    have z2 := hra s (Γ.2.1 t) (X.2.1.1.2 t _ ht).2
    exact Option.some.inj (z1.symm.trans z2)
  subst e
  exact kk q H1 (mW.grow h3 h4 hP1 hD1 h1 h2) hS1
theorem m_newq {C : String} {index t N' : Nat} {n : Int32} {M' : mM} (X : mX Γ p m c cc nL s args own A) (hw : mW Γ.1 vwCl A L M H) (hS : va_S A s.heap H locs) (i : mI) (ht : (mTy Γ)[t]? = some (Γ.2.1 t, .object C)) (hcl : Cond.classLink own index C ∈ gw) (ho : va_AO C s) (hn : ¬ n < 0) (hN : n.toNatClampNeg = N') (hbytes : N' * 4 ≤ 536870912) (h1 : mget M' i = some (.inl (Γ.2.1 t, N', .inr (.inr (.inr (.inr (fun _ => none))))))) (h2 : ∀ j, j ≠ i → mget M' j = mget M j) (hcells : cells + 1 ≤ R.cells) (hslots : slots + N' ≤ R.slots) (hdg : decode cc pc = .ok (.anewarray index, 3))
    (kk : ∀ (q : Nat) (H1 : Heap), mW Γ.1 vwCl A (updI L i q) M' H1 → va_S A s.heap H1 locs → W p l e R s m args below meth c H1 locs (cells + 1) (slots + N') Q (F0 m (pc + 3) ls (.ref q :: rest))) : W p l e R s m args below meth c H locs cells slots Q (F0 m pc ls (.int n :: rest)) := by
  obtain ⟨ws, hP, hD, h3, h4⟩ := hw
  have hts := X.1.2.2.2.2
  refine va_newq X.1.1 X.1.2.1 X.1.2.2.2.1 (hts _ hcl) ho X.2.1.1 hP hD hS X.2.2.2 hn hN hbytes hcells hslots hdg (fun q cA H1 hK1 hP1 hD1 hS1 => ?_)
  have e : cA = Γ.2.1 t := by
    obtain ⟨_, _, _, _, _, z1⟩ := (hK1.2 (mTy Γ).length (cA, .object C) (by simp)).2
    obtain ⟨_, _, _, _, _, z2⟩ := (X.2.1.1.2 t _ ht).2
    exact Option.some.inj (z1.symm.trans z2)
  subst e
  exact kk q H1 (mW.grow h3 h4 hP1 hD1 h1 h2) hS1
theorem m_copyi {i0 : mI} {index n0 n1 : Nat} {f g : Nat → Int32} {sp dp n : Int32} (X : mX Γ p m c cc nL s args own A) (hw : mW Γ.1 vwCl A L M H) (hS : va_S A s.heap H locs) (hsz : ls.size = nL) (hl : Cond.methodLink own index arraycopyName ∈ gw) (hi0 : mget M i0 = some (.inl (Γ.2.1 0, n0, .inl f))) (hi : mget M i = some (.inl (Γ.2.1 0, n1, .inl g))) (h1 : ¬ sp < 0) (h2 : ¬ dp < 0) (h3 : ¬ n < 0) (h4 : sp.toNatClampNeg + n.toNatClampNeg ≤ n0) (h5 : dp.toNatClampNeg + n.toNatClampNeg ≤ n1) (hfr : 1 ≤ R.frames) (hlo : (rest.map fun v => v.category).sum + (nativeFrameWords "java/lang/System" "arraycopy" 5 + 11) ≤ R.locals) (hdg : decode cc pc = .ok (.invokestatic index, 3))
    (kk : ∀ (H1 : Heap) (locs1 : List Loc), mW Γ.1 vwCl A L (mset M i (.inl (Γ.2.1 0, n1, .inl (va_cpy f g sp.toNatClampNeg dp.toNatClampNeg n.toNatClampNeg)))) H1 → va_S A s.heap H1 locs1 → W p l e R s m args below meth c H1 locs1 cells slots Q (F0 m (pc + 3) ls rest)) : W p l e R s m args below meth c H locs cells slots Q (F0 m pc ls (.int n :: .int dp :: .ref (L i) :: .int sp :: .ref (L i0) :: rest)) := by
  obtain ⟨ws, hP, hD, w3, w4⟩ := hw
  obtain ⟨k0, hk0⟩ := w3 i0 _ hi0
  obtain ⟨k1, hk1⟩ := w3 i _ hi
  have hts := X.1.2.2.2.2
  exact va_copyi X.1.1 X.1.2.1 (by rw [X.1.2.2.1, hsz]) X.1.2.2.2.1 (hts _ hl) (hts _ nat_copy) (hts _ st_arraycopyName) (hts _ ini_J10) X.2.1.1 hP hD hS k0 k1 0 0 hk0 hk1 rfl rfl rfl h1 h2 h3 h4 h5 (fun _ _ => rfl) hfr hlo hdg (fun H1 locs1 hP1 hD1 hS1 => kk H1 locs1 (mW.set hk1 hi w3 w4 hP1 hD1) hS1)
/-- the static tables -/
theorem m_getUN {index : Nat} {ref : String} (X : mX Γ p m c cc nL s args own A) (hS : va_S A s.heap H locs) (hlink : Cond.fieldLink own index ref "UNDER" "[I" ∈ gw) (hself : ref = RX3) (hdg : decode cc pc = .ok (.getstatic index, 3))
    (kk : W p l e R s m args below meth c H locs cells slots Q (F0 m (pc + 3) ls (.ref (Γ.2.2 0) :: rest))) : W p l e R s m args below meth c H locs cells slots Q (F0 m pc ls rest) :=
  va_gets X.1.1 X.1.2.1 X.2.2.1.1 hS X.1.2.2.2.1 (X.1.2.2.2.2 _ hlink) (fun x h => by rw [hself]; exact h) hdg kk
theorem m_getAB {index : Nat} {ref : String} (X : mX Γ p m c cc nL s args own A) (hS : va_S A s.heap H locs) (hlink : Cond.fieldLink own index ref "ABOVE" "[I" ∈ gw) (hself : ref = RX3) (hdg : decode cc pc = .ok (.getstatic index, 3))
    (kk : W p l e R s m args below meth c H locs cells slots Q (F0 m (pc + 3) ls (.ref (Γ.2.2 1) :: rest))) : W p l e R s m args below meth c H locs cells slots Q (F0 m pc ls rest) :=
  va_gets X.1.1 X.1.2.1 X.2.2.1.2.2.1 hS X.1.2.2.2.1 (X.1.2.2.2.2 _ hlink) (fun x h => by rw [hself]; exact h) hdg kk
theorem m_ldUN {x : Int32} (X : mX Γ p m c cc nL s args own A) (hS : va_S A s.heap H locs) (hin : vp_in x 8) (hdg : decode cc pc = .ok (.iaload, 1))
    (kk : W p l e R s m args below meth c H locs cells slots Q (F0 m (pc + 1) ls (.int (mUN x.toNatClampNeg) :: rest))) : W p l e R s m args below meth c H locs cells slots Q (F0 m pc ls (.int x :: .ref (Γ.2.2 0) :: rest)) :=
  va_ti X.1.1 X.1.2.1 X.2.2.1.2.1 hS hin rfl hdg kk
theorem m_ldAB {x : Int32} (X : mX Γ p m c cc nL s args own A) (hS : va_S A s.heap H locs) (hin : vp_in x 8) (hdg : decode cc pc = .ok (.iaload, 1))
    (kk : W p l e R s m args below meth c H locs cells slots Q (F0 m (pc + 1) ls (.int (mAB x.toNatClampNeg) :: rest))) : W p l e R s m args below meth c H locs cells slots Q (F0 m pc ls (.int x :: .ref (Γ.2.2 1) :: rest)) :=
  va_ti X.1.1 X.1.2.1 X.2.2.1.2.2.2 hS hin rfl hdg kk
end MI
end
section
theorem dX10_init_0 : decode cX10_init 0 = .ok (.aload_n 0, 1) := by decide +kernel
theorem dX10_init_1 : decode cX10_init 1 = .ok (.invokespecial 1, 3) := by decide +kernel
theorem dX10_init_4 : decode cX10_init 4 = .ok (.aload_n 0, 1) := by decide +kernel
theorem dX10_init_5 : decode cX10_init 5 = .ok (.bipush 8, 2) := by decide +kernel
theorem dX10_init_7 : decode cX10_init 7 = .ok (.newarray .int, 2) := by decide +kernel
theorem dX10_init_9 : decode cX10_init 9 = .ok (.putfield 7, 3) := by decide +kernel
theorem dX10_init_12 : decode cX10_init 12 = .ok (.aload_n 0, 1) := by decide +kernel
theorem dX10_init_13 : decode cX10_init 13 = .ok (.bipush 8, 2) := by decide +kernel
theorem dX10_init_15 : decode cX10_init 15 = .ok (.newarray .int, 2) := by decide +kernel
theorem dX10_init_17 : decode cX10_init 17 = .ok (.putfield 13, 3) := by decide +kernel
theorem dX10_init_20 : decode cX10_init 20 = .ok (.aload_n 0, 1) := by decide +kernel
theorem dX10_init_21 : decode cX10_init 21 = .ok (.sipush 320, 3) := by decide +kernel
theorem dX10_init_24 : decode cX10_init 24 = .ok (.newarray .int, 2) := by decide +kernel
theorem dX10_init_26 : decode cX10_init 26 = .ok (.putfield 16, 3) := by decide +kernel
theorem dX10_init_29 : decode cX10_init 29 = .ok (.aload_n 0, 1) := by decide +kernel
theorem dX10_init_30 : decode cX10_init 30 = .ok (.sipush 320, 3) := by decide +kernel
theorem dX10_init_33 : decode cX10_init 33 = .ok (.newarray .long, 2) := by decide +kernel
theorem dX10_init_35 : decode cX10_init 35 = .ok (.putfield 19, 3) := by decide +kernel
theorem dX10_init_38 : decode cX10_init 38 = .ok (.aload_n 0, 1) := by decide +kernel
theorem dX10_init_39 : decode cX10_init 39 = .ok (.bipush 8, 2) := by decide +kernel
theorem dX10_init_41 : decode cX10_init 41 = .ok (.newarray .int, 2) := by decide +kernel
theorem dX10_init_43 : decode cX10_init 43 = .ok (.putfield 23, 3) := by decide +kernel
theorem dX10_init_46 : decode cX10_init 46 = .ok (.aload_n 0, 1) := by decide +kernel
theorem dX10_init_47 : decode cX10_init 47 = .ok (.sipush 192, 3) := by decide +kernel
theorem dX10_init_50 : decode cX10_init 50 = .ok (.newarray .int, 2) := by decide +kernel
theorem dX10_init_52 : decode cX10_init 52 = .ok (.putfield 26, 3) := by decide +kernel
theorem dX10_init_55 : decode cX10_init 55 = .ok (.aload_n 0, 1) := by decide +kernel
theorem dX10_init_56 : decode cX10_init 56 = .ok (.sipush 320, 3) := by decide +kernel
theorem dX10_init_59 : decode cX10_init 59 = .ok (.newarray .int, 2) := by decide +kernel
theorem dX10_init_61 : decode cX10_init 61 = .ok (.putfield 29, 3) := by decide +kernel
theorem dX10_init_64 : decode cX10_init 64 = .ok (.aload_n 0, 1) := by decide +kernel
theorem dX10_init_65 : decode cX10_init 65 = .ok (.sipush 5120, 3) := by decide +kernel
theorem dX10_init_68 : decode cX10_init 68 = .ok (.newarray .int, 2) := by decide +kernel
theorem dX10_init_70 : decode cX10_init 70 = .ok (.putfield 32, 3) := by decide +kernel
theorem dX10_init_73 : decode cX10_init 73 = .ok (.aload_n 0, 1) := by decide +kernel
theorem dX10_init_74 : decode cX10_init 74 = .ok (.bipush 8, 2) := by decide +kernel
theorem dX10_init_76 : decode cX10_init 76 = .ok (.newarray .boolean, 2) := by decide +kernel
theorem dX10_init_78 : decode cX10_init 78 = .ok (.putfield 35, 3) := by decide +kernel
theorem dX10_init_81 : decode cX10_init 81 = .ok (.aload_n 0, 1) := by decide +kernel
theorem dX10_init_82 : decode cX10_init 82 = .ok (.bipush 40, 2) := by decide +kernel
theorem dX10_init_84 : decode cX10_init 84 = .ok (.newarray .int, 2) := by decide +kernel
theorem dX10_init_86 : decode cX10_init 86 = .ok (.putfield 39, 3) := by decide +kernel
theorem dX10_init_89 : decode cX10_init 89 = .ok (.aload_n 0, 1) := by decide +kernel
theorem dX10_init_90 : decode cX10_init 90 = .ok (.sipush 640, 3) := by decide +kernel
theorem dX10_init_93 : decode cX10_init 93 = .ok (.newarray .int, 2) := by decide +kernel
theorem dX10_init_95 : decode cX10_init 95 = .ok (.putfield 42, 3) := by decide +kernel
theorem dX10_init_98 : decode cX10_init 98 = .ok (.aload_n 0, 1) := by decide +kernel
theorem dX10_init_99 : decode cX10_init 99 = .ok (.bipush 16, 2) := by decide +kernel
theorem dX10_init_101 : decode cX10_init 101 = .ok (.newarray .int, 2) := by decide +kernel
theorem dX10_init_103 : decode cX10_init 103 = .ok (.putfield 45, 3) := by decide +kernel
theorem dX10_init_106 : decode cX10_init 106 = .ok (.aload_n 0, 1) := by decide +kernel
theorem dX10_init_107 : decode cX10_init 107 = .ok (.bipush 8, 2) := by decide +kernel
theorem dX10_init_109 : decode cX10_init 109 = .ok (.newarray .int, 2) := by decide +kernel
theorem dX10_init_111 : decode cX10_init 111 = .ok (.putfield 48, 3) := by decide +kernel
theorem dX10_init_114 : decode cX10_init 114 = .ok (.aload_n 0, 1) := by decide +kernel
theorem dX10_init_115 : decode cX10_init 115 = .ok (.sipush 128, 3) := by decide +kernel
theorem dX10_init_118 : decode cX10_init 118 = .ok (.newarray .long, 2) := by decide +kernel
theorem dX10_init_120 : decode cX10_init 120 = .ok (.putfield 51, 3) := by decide +kernel
theorem dX10_init_123 : decode cX10_init 123 = .ok (.aload_n 0, 1) := by decide +kernel
theorem dX10_init_124 : decode cX10_init 124 = .ok (.bipush 8, 2) := by decide +kernel
theorem dX10_init_126 : decode cX10_init 126 = .ok (.newarray .int, 2) := by decide +kernel
theorem dX10_init_128 : decode cX10_init 128 = .ok (.putfield 54, 3) := by decide +kernel
theorem dX10_init_131 : decode cX10_init 131 = .ok (.aload_n 0, 1) := by decide +kernel
theorem dX10_init_132 : decode cX10_init 132 = .ok (.bipush 8, 2) := by decide +kernel
theorem dX10_init_134 : decode cX10_init 134 = .ok (.newarray .int, 2) := by decide +kernel
theorem dX10_init_136 : decode cX10_init 136 = .ok (.putfield 57, 3) := by decide +kernel
theorem dX10_init_139 : decode cX10_init 139 = .ok (.aload_n 0, 1) := by decide +kernel
theorem dX10_init_140 : decode cX10_init 140 = .ok (.bipush 8, 2) := by decide +kernel
theorem dX10_init_142 : decode cX10_init 142 = .ok (.newarray .int, 2) := by decide +kernel
theorem dX10_init_144 : decode cX10_init 144 = .ok (.putfield 60, 3) := by decide +kernel
theorem dX10_init_147 : decode cX10_init 147 = .ok (.aload_n 0, 1) := by decide +kernel
theorem dX10_init_148 : decode cX10_init 148 = .ok (.bipush 20, 2) := by decide +kernel
theorem dX10_init_150 : decode cX10_init 150 = .ok (.newarray .int, 2) := by decide +kernel
theorem dX10_init_152 : decode cX10_init 152 = .ok (.putfield 63, 3) := by decide +kernel
theorem dX10_init_155 : decode cX10_init 155 = .ok (.aload_n 0, 1) := by decide +kernel
theorem dX10_init_156 : decode cX10_init 156 = .ok (.bipush 20, 2) := by decide +kernel
theorem dX10_init_158 : decode cX10_init 158 = .ok (.newarray .int, 2) := by decide +kernel
theorem dX10_init_160 : decode cX10_init 160 = .ok (.putfield 66, 3) := by decide +kernel
theorem dX10_init_163 : decode cX10_init 163 = .ok (.aload_n 0, 1) := by decide +kernel
theorem dX10_init_164 : decode cX10_init 164 = .ok (.bipush 20, 2) := by decide +kernel
theorem dX10_init_166 : decode cX10_init 166 = .ok (.newarray .int, 2) := by decide +kernel
theorem dX10_init_168 : decode cX10_init 168 = .ok (.putfield 69, 3) := by decide +kernel
theorem dX10_init_171 : decode cX10_init 171 = .ok (.aload_n 0, 1) := by decide +kernel
theorem dX10_init_172 : decode cX10_init 172 = .ok (.sipush 600, 3) := by decide +kernel
theorem dX10_init_175 : decode cX10_init 175 = .ok (.newarray .long, 2) := by decide +kernel
theorem dX10_init_177 : decode cX10_init 177 = .ok (.putfield 72, 3) := by decide +kernel
theorem dX10_init_180 : decode cX10_init 180 = .ok (.iconst 0, 1) := by decide +kernel
theorem dX10_init_181 : decode cX10_init 181 = .ok (.istore_n 1, 1) := by decide +kernel
theorem dX10_init_182 : decode cX10_init 182 = .ok (.iload_n 1, 1) := by decide +kernel
theorem dX10_init_183 : decode cX10_init 183 = .ok (.bipush 40, 2) := by decide +kernel
theorem dX10_init_185 : decode cX10_init 185 = .ok (.if_icmp .ge 16, 3) := by decide +kernel
theorem dX10_init_188 : decode cX10_init 188 = .ok (.aload_n 0, 1) := by decide +kernel
theorem dX10_init_189 : decode cX10_init 189 = .ok (.getfield 39, 3) := by decide +kernel
theorem dX10_init_192 : decode cX10_init 192 = .ok (.iload_n 1, 1) := by decide +kernel
theorem dX10_init_193 : decode cX10_init 193 = .ok (.iconst (-1), 1) := by decide +kernel
theorem dX10_init_194 : decode cX10_init 194 = .ok (.iastore, 1) := by decide +kernel
theorem dX10_init_195 : decode cX10_init 195 = .ok (.iinc 1 1, 3) := by decide +kernel
theorem dX10_init_198 : decode cX10_init 198 = .ok (.goto (-16), 3) := by decide +kernel
theorem dX10_init_201 : decode cX10_init 201 = .ok (.return_, 1) := by decide +kernel
theorem dX10_isIn_0 : decode cX10_isIn 0 = .ok (.lload_n 0, 1) := by decide +kernel
theorem dX10_isIn_1 : decode cX10_isIn 1 = .ok (.lload_n 2, 1) := by decide +kernel
theorem dX10_isIn_2 : decode cX10_isIn 2 = .ok (.lcmp, 1) := by decide +kernel
theorem dX10_isIn_3 : decode cX10_isIn 3 = .ok (.ifCond .lt 14, 3) := by decide +kernel
theorem dX10_isIn_6 : decode cX10_isIn 6 = .ok (.lload_n 0, 1) := by decide +kernel
theorem dX10_isIn_7 : decode cX10_isIn 7 = .ok (.lload 4, 2) := by decide +kernel
theorem dX10_isIn_9 : decode cX10_isIn 9 = .ok (.lcmp, 1) := by decide +kernel
theorem dX10_isIn_10 : decode cX10_isIn 10 = .ok (.ifCond .gt 7, 3) := by decide +kernel
theorem dX10_isIn_13 : decode cX10_isIn 13 = .ok (.iconst 1, 1) := by decide +kernel
theorem dX10_isIn_14 : decode cX10_isIn 14 = .ok (.goto 4, 3) := by decide +kernel
theorem dX10_isIn_17 : decode cX10_isIn 17 = .ok (.iconst 0, 1) := by decide +kernel
theorem dX10_isIn_18 : decode cX10_isIn 18 = .ok (.ireturn, 1) := by decide +kernel
theorem dX10_isMethod_0 : decode cX10_isMethod 0 = .ok (.iload_n 1, 1) := by decide +kernel
theorem dX10_isMethod_1 : decode cX10_isMethod 1 = .ok (.i2l, 1) := by decide +kernel
theorem dX10_isMethod_2 : decode cX10_isMethod 2 = .ok (.lconst 0, 1) := by decide +kernel
theorem dX10_isMethod_3 : decode cX10_isMethod 3 = .ok (.aload_n 0, 1) := by decide +kernel
theorem dX10_isMethod_4 : decode cX10_isMethod 4 = .ok (.getfield 75, 3) := by decide +kernel
theorem dX10_isMethod_7 : decode cX10_isMethod 7 = .ok (.iconst 1, 1) := by decide +kernel
theorem dX10_isMethod_8 : decode cX10_isMethod 8 = .ok (.isub, 1) := by decide +kernel
theorem dX10_isMethod_9 : decode cX10_isMethod 9 = .ok (.i2l, 1) := by decide +kernel
theorem dX10_isMethod_10 : decode cX10_isMethod 10 = .ok (.invokestatic 79, 3) := by decide +kernel
theorem dX10_isMethod_13 : decode cX10_isMethod 13 = .ok (.ireturn, 1) := by decide +kernel
theorem dX10_above_0 : decode cX10_above 0 = .ok (.iload_n 0, 1) := by decide +kernel
theorem dX10_above_1 : decode cX10_above 1 = .ok (.ifCond .eq 8, 3) := by decide +kernel
theorem dX10_above_4 : decode cX10_above 4 = .ok (.iload_n 0, 1) := by decide +kernel
theorem dX10_above_5 : decode cX10_above 5 = .ok (.iconst 5, 1) := by decide +kernel
theorem dX10_above_6 : decode cX10_above 6 = .ok (.if_icmp .le 7, 3) := by decide +kernel
theorem dX10_above_9 : decode cX10_above 9 = .ok (.iconst (-1), 1) := by decide +kernel
theorem dX10_above_10 : decode cX10_above 10 = .ok (.goto 22, 3) := by decide +kernel
theorem dX10_above_13 : decode cX10_above 13 = .ok (.iload_n 0, 1) := by decide +kernel
theorem dX10_above_14 : decode cX10_above 14 = .ok (.iconst 1, 1) := by decide +kernel
theorem dX10_above_15 : decode cX10_above 15 = .ok (.if_icmp .ne 7, 3) := by decide +kernel
theorem dX10_above_18 : decode cX10_above 18 = .ok (.iconst 0, 1) := by decide +kernel
theorem dX10_above_19 : decode cX10_above 19 = .ok (.goto 13, 3) := by decide +kernel
theorem dX10_above_22 : decode cX10_above 22 = .ok (.iload_n 0, 1) := by decide +kernel
theorem dX10_above_23 : decode cX10_above 23 = .ok (.iconst 4, 1) := by decide +kernel
theorem dX10_above_24 : decode cX10_above 24 = .ok (.if_icmp .ne 7, 3) := by decide +kernel
theorem dX10_above_27 : decode cX10_above 27 = .ok (.iconst 2, 1) := by decide +kernel
theorem dX10_above_28 : decode cX10_above 28 = .ok (.goto 4, 3) := by decide +kernel
theorem dX10_above_31 : decode cX10_above 31 = .ok (.iconst 1, 1) := by decide +kernel
theorem dX10_above_32 : decode cX10_above 32 = .ok (.ireturn, 1) := by decide +kernel
theorem dX10_isUnder_0 : decode cX10_isUnder 0 = .ok (.iload_n 0, 1) := by decide +kernel
theorem dX10_isUnder_1 : decode cX10_isUnder 1 = .ok (.iload_n 1, 1) := by decide +kernel
theorem dX10_isUnder_2 : decode cX10_isUnder 2 = .ok (.if_icmp .eq 7, 3) := by decide +kernel
theorem dX10_isUnder_5 : decode cX10_isUnder 5 = .ok (.iload_n 1, 1) := by decide +kernel
theorem dX10_isUnder_6 : decode cX10_isUnder 6 = .ok (.ifCond .ne 5, 3) := by decide +kernel
theorem dX10_isUnder_9 : decode cX10_isUnder 9 = .ok (.iconst 1, 1) := by decide +kernel
theorem dX10_isUnder_10 : decode cX10_isUnder 10 = .ok (.ireturn, 1) := by decide +kernel
theorem dX10_isUnder_11 : decode cX10_isUnder 11 = .ok (.iload_n 1, 1) := by decide +kernel
theorem dX10_isUnder_12 : decode cX10_isUnder 12 = .ok (.bipush 6, 2) := by decide +kernel
theorem dX10_isUnder_14 : decode cX10_isUnder 14 = .ok (.if_icmp .ne 19, 3) := by decide +kernel
theorem dX10_isUnder_17 : decode cX10_isUnder 17 = .ok (.iload_n 0, 1) := by decide +kernel
theorem dX10_isUnder_18 : decode cX10_isUnder 18 = .ok (.iconst 3, 1) := by decide +kernel
theorem dX10_isUnder_19 : decode cX10_isUnder 19 = .ok (.if_icmp .eq 8, 3) := by decide +kernel
theorem dX10_isUnder_22 : decode cX10_isUnder 22 = .ok (.iload_n 0, 1) := by decide +kernel
theorem dX10_isUnder_23 : decode cX10_isUnder 23 = .ok (.iconst 4, 1) := by decide +kernel
theorem dX10_isUnder_24 : decode cX10_isUnder 24 = .ok (.if_icmp .ne 7, 3) := by decide +kernel
theorem dX10_isUnder_27 : decode cX10_isUnder 27 = .ok (.iconst 1, 1) := by decide +kernel
theorem dX10_isUnder_28 : decode cX10_isUnder 28 = .ok (.goto 4, 3) := by decide +kernel
theorem dX10_isUnder_31 : decode cX10_isUnder 31 = .ok (.iconst 0, 1) := by decide +kernel
theorem dX10_isUnder_32 : decode cX10_isUnder 32 = .ok (.ireturn, 1) := by decide +kernel
theorem dX10_isUnder_33 : decode cX10_isUnder 33 = .ok (.iload_n 1, 1) := by decide +kernel
theorem dX10_isUnder_34 : decode cX10_isUnder 34 = .ok (.bipush 7, 2) := by decide +kernel
theorem dX10_isUnder_36 : decode cX10_isUnder 36 = .ok (.if_icmp .ne 19, 3) := by decide +kernel
theorem dX10_isUnder_39 : decode cX10_isUnder 39 = .ok (.iload_n 0, 1) := by decide +kernel
theorem dX10_isUnder_40 : decode cX10_isUnder 40 = .ok (.iconst 4, 1) := by decide +kernel
theorem dX10_isUnder_41 : decode cX10_isUnder 41 = .ok (.if_icmp .eq 8, 3) := by decide +kernel
theorem dX10_isUnder_44 : decode cX10_isUnder 44 = .ok (.iload_n 0, 1) := by decide +kernel
theorem dX10_isUnder_45 : decode cX10_isUnder 45 = .ok (.iconst 5, 1) := by decide +kernel
theorem dX10_isUnder_46 : decode cX10_isUnder 46 = .ok (.if_icmp .ne 7, 3) := by decide +kernel
theorem dX10_isUnder_49 : decode cX10_isUnder 49 = .ok (.iconst 1, 1) := by decide +kernel
theorem dX10_isUnder_50 : decode cX10_isUnder 50 = .ok (.goto 4, 3) := by decide +kernel
theorem dX10_isUnder_53 : decode cX10_isUnder 53 = .ok (.iconst 0, 1) := by decide +kernel
theorem dX10_isUnder_54 : decode cX10_isUnder 54 = .ok (.ireturn, 1) := by decide +kernel
theorem dX10_isUnder_55 : decode cX10_isUnder 55 = .ok (.iload_n 0, 1) := by decide +kernel
theorem dX10_isUnder_56 : decode cX10_isUnder 56 = .ok (.istore_n 2, 1) := by decide +kernel
theorem dX10_isUnder_57 : decode cX10_isUnder 57 = .ok (.iload_n 2, 1) := by decide +kernel
theorem dX10_isUnder_58 : decode cX10_isUnder 58 = .ok (.iconst (-1), 1) := by decide +kernel
theorem dX10_isUnder_59 : decode cX10_isUnder 59 = .ok (.if_icmp .eq 16, 3) := by decide +kernel
theorem dX10_isUnder_62 : decode cX10_isUnder 62 = .ok (.iload_n 2, 1) := by decide +kernel
theorem dX10_isUnder_63 : decode cX10_isUnder 63 = .ok (.iload_n 1, 1) := by decide +kernel
theorem dX10_isUnder_64 : decode cX10_isUnder 64 = .ok (.if_icmp .eq 11, 3) := by decide +kernel
theorem dX10_isUnder_67 : decode cX10_isUnder 67 = .ok (.iload_n 2, 1) := by decide +kernel
theorem dX10_isUnder_68 : decode cX10_isUnder 68 = .ok (.invokestatic 83, 3) := by decide +kernel
theorem dX10_isUnder_71 : decode cX10_isUnder 71 = .ok (.istore_n 2, 1) := by decide +kernel
theorem dX10_isUnder_72 : decode cX10_isUnder 72 = .ok (.goto (-15), 3) := by decide +kernel
theorem dX10_isUnder_75 : decode cX10_isUnder 75 = .ok (.iload_n 2, 1) := by decide +kernel
theorem dX10_isUnder_76 : decode cX10_isUnder 76 = .ok (.iload_n 1, 1) := by decide +kernel
theorem dX10_isUnder_77 : decode cX10_isUnder 77 = .ok (.if_icmp .ne 7, 3) := by decide +kernel
theorem dX10_isUnder_80 : decode cX10_isUnder 80 = .ok (.iconst 1, 1) := by decide +kernel
theorem dX10_isUnder_81 : decode cX10_isUnder 81 = .ok (.goto 4, 3) := by decide +kernel
theorem dX10_isUnder_84 : decode cX10_isUnder 84 = .ok (.iconst 0, 1) := by decide +kernel
theorem dX10_isUnder_85 : decode cX10_isUnder 85 = .ok (.ireturn, 1) := by decide +kernel
theorem dX10_isObject_0 : decode cX10_isObject 0 = .ok (.iload_n 0, 1) := by decide +kernel
theorem dX10_isObject_1 : decode cX10_isObject 1 = .ok (.i2l, 1) := by decide +kernel
theorem dX10_isObject_2 : decode cX10_isObject 2 = .ok (.ldc2_w 87, 3) := by decide +kernel
theorem dX10_isObject_5 : decode cX10_isObject 5 = .ok (.ldc2_w 89, 3) := by decide +kernel
theorem dX10_isObject_8 : decode cX10_isObject 8 = .ok (.invokestatic 79, 3) := by decide +kernel
theorem dX10_isObject_11 : decode cX10_isObject 11 = .ok (.ireturn, 1) := by decide +kernel
theorem dX10_isRow_0 : decode cX10_isRow 0 = .ok (.iload_n 0, 1) := by decide +kernel
theorem dX10_isRow_1 : decode cX10_isRow 1 = .ok (.i2l, 1) := by decide +kernel
theorem dX10_isRow_2 : decode cX10_isRow 2 = .ok (.ldc2_w 91, 3) := by decide +kernel
theorem dX10_isRow_5 : decode cX10_isRow 5 = .ok (.ldc2_w 93, 3) := by decide +kernel
theorem dX10_isRow_8 : decode cX10_isRow 8 = .ok (.invokestatic 79, 3) := by decide +kernel
theorem dX10_isRow_11 : decode cX10_isRow 11 = .ok (.ireturn, 1) := by decide +kernel
theorem dX10_isThing_0 : decode cX10_isThing 0 = .ok (.iload_n 0, 1) := by decide +kernel
theorem dX10_isThing_1 : decode cX10_isThing 1 = .ok (.iconst 5, 1) := by decide +kernel
theorem dX10_isThing_2 : decode cX10_isThing 2 = .ok (.if_icmp .eq 17, 3) := by decide +kernel
theorem dX10_isThing_5 : decode cX10_isThing 5 = .ok (.iload_n 0, 1) := by decide +kernel
theorem dX10_isThing_6 : decode cX10_isThing 6 = .ok (.invokestatic 95, 3) := by decide +kernel
theorem dX10_isThing_9 : decode cX10_isThing 9 = .ok (.ifCond .ne 10, 3) := by decide +kernel
theorem dX10_isThing_12 : decode cX10_isThing 12 = .ok (.iload_n 0, 1) := by decide +kernel
theorem dX10_isThing_13 : decode cX10_isThing 13 = .ok (.invokestatic 99, 3) := by decide +kernel
theorem dX10_isThing_16 : decode cX10_isThing 16 = .ok (.ifCond .eq 7, 3) := by decide +kernel
theorem dX10_isThing_19 : decode cX10_isThing 19 = .ok (.iconst 1, 1) := by decide +kernel
theorem dX10_isThing_20 : decode cX10_isThing 20 = .ok (.goto 4, 3) := by decide +kernel
theorem dX10_isThing_23 : decode cX10_isThing 23 = .ok (.iconst 0, 1) := by decide +kernel
theorem dX10_isThing_24 : decode cX10_isThing 24 = .ok (.ireturn, 1) := by decide +kernel
theorem dX10_isKind_0 : decode cX10_isKind 0 = .ok (.iload_n 0, 1) := by decide +kernel
theorem dX10_isKind_1 : decode cX10_isKind 1 = .ok (.i2l, 1) := by decide +kernel
theorem dX10_isKind_2 : decode cX10_isKind 2 = .ok (.lconst 0, 1) := by decide +kernel
theorem dX10_isKind_3 : decode cX10_isKind 3 = .ok (.ldc2_w 102, 3) := by decide +kernel
theorem dX10_isKind_6 : decode cX10_isKind 6 = .ok (.invokestatic 79, 3) := by decide +kernel
theorem dX10_isKind_9 : decode cX10_isKind 9 = .ok (.ifCond .ne 31, 3) := by decide +kernel
theorem dX10_isKind_12 : decode cX10_isKind 12 = .ok (.iload_n 0, 1) := by decide +kernel
theorem dX10_isKind_13 : decode cX10_isKind 13 = .ok (.invokestatic 95, 3) := by decide +kernel
theorem dX10_isKind_16 : decode cX10_isKind 16 = .ok (.ifCond .ne 24, 3) := by decide +kernel
theorem dX10_isKind_19 : decode cX10_isKind 19 = .ok (.iload_n 0, 1) := by decide +kernel
theorem dX10_isKind_20 : decode cX10_isKind 20 = .ok (.invokestatic 99, 3) := by decide +kernel
theorem dX10_isKind_23 : decode cX10_isKind 23 = .ok (.ifCond .ne 17, 3) := by decide +kernel
theorem dX10_isKind_26 : decode cX10_isKind 26 = .ok (.iload_n 0, 1) := by decide +kernel
theorem dX10_isKind_27 : decode cX10_isKind 27 = .ok (.i2l, 1) := by decide +kernel
theorem dX10_isKind_28 : decode cX10_isKind 28 = .ok (.ldc2_w 104, 3) := by decide +kernel
theorem dX10_isKind_31 : decode cX10_isKind 31 = .ok (.ldc2_w 106, 3) := by decide +kernel
theorem dX10_isKind_34 : decode cX10_isKind 34 = .ok (.invokestatic 79, 3) := by decide +kernel
theorem dX10_isKind_37 : decode cX10_isKind 37 = .ok (.ifCond .eq 7, 3) := by decide +kernel
theorem dX10_isKind_40 : decode cX10_isKind 40 = .ok (.iconst 1, 1) := by decide +kernel
theorem dX10_isKind_41 : decode cX10_isKind 41 = .ok (.goto 4, 3) := by decide +kernel
theorem dX10_isKind_44 : decode cX10_isKind 44 = .ok (.iconst 0, 1) := by decide +kernel
theorem dX10_isKind_45 : decode cX10_isKind 45 = .ok (.ireturn, 1) := by decide +kernel
theorem dX10_goes_0 : decode cX10_goes 0 = .ok (.iload_n 0, 1) := by decide +kernel
theorem dX10_goes_1 : decode cX10_goes 1 = .ok (.iload_n 1, 1) := by decide +kernel
theorem dX10_goes_2 : decode cX10_goes 2 = .ok (.if_icmp .eq 7, 3) := by decide +kernel
theorem dX10_goes_5 : decode cX10_goes 5 = .ok (.iload_n 1, 1) := by decide +kernel
theorem dX10_goes_6 : decode cX10_goes 6 = .ok (.ifCond .ne 5, 3) := by decide +kernel
theorem dX10_goes_9 : decode cX10_goes 9 = .ok (.iconst 1, 1) := by decide +kernel
theorem dX10_goes_10 : decode cX10_goes 10 = .ok (.ireturn, 1) := by decide +kernel
theorem dX10_goes_11 : decode cX10_goes 11 = .ok (.iload_n 0, 1) := by decide +kernel
theorem dX10_goes_12 : decode cX10_goes 12 = .ok (.iconst 4, 1) := by decide +kernel
theorem dX10_goes_13 : decode cX10_goes 13 = .ok (.if_icmp .ne 8, 3) := by decide +kernel
theorem dX10_goes_16 : decode cX10_goes 16 = .ok (.iload_n 1, 1) := by decide +kernel
theorem dX10_goes_17 : decode cX10_goes 17 = .ok (.invokestatic 108, 3) := by decide +kernel
theorem dX10_goes_20 : decode cX10_goes 20 = .ok (.ireturn, 1) := by decide +kernel
theorem dX10_goes_21 : decode cX10_goes 21 = .ok (.iload_n 0, 1) := by decide +kernel
theorem dX10_goes_22 : decode cX10_goes 22 = .ok (.invokestatic 95, 3) := by decide +kernel
theorem dX10_goes_25 : decode cX10_goes 25 = .ok (.ifCond .eq 36, 3) := by decide +kernel
theorem dX10_goes_28 : decode cX10_goes 28 = .ok (.iload_n 1, 1) := by decide +kernel
theorem dX10_goes_29 : decode cX10_goes 29 = .ok (.invokestatic 95, 3) := by decide +kernel
theorem dX10_goes_32 : decode cX10_goes 32 = .ok (.ifCond .eq 29, 3) := by decide +kernel
theorem dX10_goes_35 : decode cX10_goes 35 = .ok (.iload_n 1, 1) := by decide +kernel
theorem dX10_goes_36 : decode cX10_goes 36 = .ok (.bipush 15, 2) := by decide +kernel
theorem dX10_goes_38 : decode cX10_goes 38 = .ok (.if_icmp .gt 17, 3) := by decide +kernel
theorem dX10_goes_41 : decode cX10_goes 41 = .ok (.iload_n 0, 1) := by decide +kernel
theorem dX10_goes_42 : decode cX10_goes 42 = .ok (.bipush 10, 2) := by decide +kernel
theorem dX10_goes_44 : decode cX10_goes 44 = .ok (.isub, 1) := by decide +kernel
theorem dX10_goes_45 : decode cX10_goes 45 = .ok (.iload_n 1, 1) := by decide +kernel
theorem dX10_goes_46 : decode cX10_goes 46 = .ok (.bipush 10, 2) := by decide +kernel
theorem dX10_goes_48 : decode cX10_goes 48 = .ok (.isub, 1) := by decide +kernel
theorem dX10_goes_49 : decode cX10_goes 49 = .ok (.invokestatic 111, 3) := by decide +kernel
theorem dX10_goes_52 : decode cX10_goes 52 = .ok (.ifCond .eq 7, 3) := by decide +kernel
theorem dX10_goes_55 : decode cX10_goes 55 = .ok (.iconst 1, 1) := by decide +kernel
theorem dX10_goes_56 : decode cX10_goes 56 = .ok (.goto 4, 3) := by decide +kernel
theorem dX10_goes_59 : decode cX10_goes 59 = .ok (.iconst 0, 1) := by decide +kernel
theorem dX10_goes_60 : decode cX10_goes 60 = .ok (.ireturn, 1) := by decide +kernel
theorem dX10_goes_61 : decode cX10_goes 61 = .ok (.iload_n 0, 1) := by decide +kernel
theorem dX10_goes_62 : decode cX10_goes 62 = .ok (.iconst 5, 1) := by decide +kernel
theorem dX10_goes_63 : decode cX10_goes 63 = .ok (.if_icmp .eq 10, 3) := by decide +kernel
theorem dX10_goes_66 : decode cX10_goes 66 = .ok (.iload_n 0, 1) := by decide +kernel
theorem dX10_goes_67 : decode cX10_goes 67 = .ok (.invokestatic 99, 3) := by decide +kernel
theorem dX10_goes_70 : decode cX10_goes 70 = .ok (.ifCond .eq 28, 3) := by decide +kernel
theorem dX10_goes_73 : decode cX10_goes 73 = .ok (.iload_n 1, 1) := by decide +kernel
theorem dX10_goes_74 : decode cX10_goes 74 = .ok (.invokestatic 95, 3) := by decide +kernel
theorem dX10_goes_77 : decode cX10_goes 77 = .ok (.ifCond .eq 21, 3) := by decide +kernel
theorem dX10_goes_80 : decode cX10_goes 80 = .ok (.iload_n 1, 1) := by decide +kernel
theorem dX10_goes_81 : decode cX10_goes 81 = .ok (.bipush 10, 2) := by decide +kernel
theorem dX10_goes_83 : decode cX10_goes 83 = .ok (.if_icmp .eq 9, 3) := by decide +kernel
theorem dX10_goes_86 : decode cX10_goes 86 = .ok (.iload_n 1, 1) := by decide +kernel
theorem dX10_goes_87 : decode cX10_goes 87 = .ok (.bipush 15, 2) := by decide +kernel
theorem dX10_goes_89 : decode cX10_goes 89 = .ok (.if_icmp .le 7, 3) := by decide +kernel
theorem dX10_goes_92 : decode cX10_goes 92 = .ok (.iconst 1, 1) := by decide +kernel
theorem dX10_goes_93 : decode cX10_goes 93 = .ok (.goto 4, 3) := by decide +kernel
theorem dX10_goes_96 : decode cX10_goes 96 = .ok (.iconst 0, 1) := by decide +kernel
theorem dX10_goes_97 : decode cX10_goes 97 = .ok (.ireturn, 1) := by decide +kernel
theorem dX10_goes_98 : decode cX10_goes 98 = .ok (.iload_n 0, 1) := by decide +kernel
theorem dX10_goes_99 : decode cX10_goes 99 = .ok (.invokestatic 99, 3) := by decide +kernel
theorem dX10_goes_102 : decode cX10_goes 102 = .ok (.ifCond .eq 28, 3) := by decide +kernel
theorem dX10_goes_105 : decode cX10_goes 105 = .ok (.iload_n 1, 1) := by decide +kernel
theorem dX10_goes_106 : decode cX10_goes 106 = .ok (.invokestatic 99, 3) := by decide +kernel
theorem dX10_goes_109 : decode cX10_goes 109 = .ok (.ifCond .eq 21, 3) := by decide +kernel
theorem dX10_goes_112 : decode cX10_goes 112 = .ok (.iload_n 0, 1) := by decide +kernel
theorem dX10_goes_113 : decode cX10_goes 113 = .ok (.bipush 20, 2) := by decide +kernel
theorem dX10_goes_115 : decode cX10_goes 115 = .ok (.isub, 1) := by decide +kernel
theorem dX10_goes_116 : decode cX10_goes 116 = .ok (.iload_n 1, 1) := by decide +kernel
theorem dX10_goes_117 : decode cX10_goes 117 = .ok (.bipush 20, 2) := by decide +kernel
theorem dX10_goes_119 : decode cX10_goes 119 = .ok (.isub, 1) := by decide +kernel
theorem dX10_goes_120 : decode cX10_goes 120 = .ok (.invokestatic 111, 3) := by decide +kernel
theorem dX10_goes_123 : decode cX10_goes 123 = .ok (.ifCond .eq 7, 3) := by decide +kernel
theorem dX10_goes_126 : decode cX10_goes 126 = .ok (.iconst 1, 1) := by decide +kernel
theorem dX10_goes_127 : decode cX10_goes 127 = .ok (.goto 4, 3) := by decide +kernel
theorem dX10_goes_130 : decode cX10_goes 130 = .ok (.iconst 0, 1) := by decide +kernel
theorem dX10_goes_131 : decode cX10_goes 131 = .ok (.ireturn, 1) := by decide +kernel
theorem dX10_common_0 : decode cX10_common 0 = .ok (.iload_n 0, 1) := by decide +kernel
theorem dX10_common_1 : decode cX10_common 1 = .ok (.iconst 5, 1) := by decide +kernel
theorem dX10_common_2 : decode cX10_common 2 = .ok (.if_icmp .le 7, 3) := by decide +kernel
theorem dX10_common_5 : decode cX10_common 5 = .ok (.iconst 0, 1) := by decide +kernel
theorem dX10_common_6 : decode cX10_common 6 = .ok (.goto 4, 3) := by decide +kernel
theorem dX10_common_9 : decode cX10_common 9 = .ok (.iload_n 0, 1) := by decide +kernel
theorem dX10_common_10 : decode cX10_common 10 = .ok (.istore_n 2, 1) := by decide +kernel
theorem dX10_common_11 : decode cX10_common 11 = .ok (.iload_n 1, 1) := by decide +kernel
theorem dX10_common_12 : decode cX10_common 12 = .ok (.iload_n 2, 1) := by decide +kernel
theorem dX10_common_13 : decode cX10_common 13 = .ok (.invokestatic 111, 3) := by decide +kernel
theorem dX10_common_16 : decode cX10_common 16 = .ok (.ifCond .ne 11, 3) := by decide +kernel
theorem dX10_common_19 : decode cX10_common 19 = .ok (.iload_n 2, 1) := by decide +kernel
theorem dX10_common_20 : decode cX10_common 20 = .ok (.invokestatic 83, 3) := by decide +kernel
theorem dX10_common_23 : decode cX10_common 23 = .ok (.istore_n 2, 1) := by decide +kernel
theorem dX10_common_24 : decode cX10_common 24 = .ok (.goto (-13), 3) := by decide +kernel
theorem dX10_common_27 : decode cX10_common 27 = .ok (.iload_n 2, 1) := by decide +kernel
theorem dX10_common_28 : decode cX10_common 28 = .ok (.ireturn, 1) := by decide +kernel
theorem dX10_joined_0 : decode cX10_joined 0 = .ok (.iload_n 0, 1) := by decide +kernel
theorem dX10_joined_1 : decode cX10_joined 1 = .ok (.iload_n 1, 1) := by decide +kernel
theorem dX10_joined_2 : decode cX10_joined 2 = .ok (.if_icmp .ne 5, 3) := by decide +kernel
theorem dX10_joined_5 : decode cX10_joined 5 = .ok (.iload_n 0, 1) := by decide +kernel
theorem dX10_joined_6 : decode cX10_joined 6 = .ok (.ireturn, 1) := by decide +kernel
theorem dX10_joined_7 : decode cX10_joined 7 = .ok (.iload_n 0, 1) := by decide +kernel
theorem dX10_joined_8 : decode cX10_joined 8 = .ok (.iconst 4, 1) := by decide +kernel
theorem dX10_joined_9 : decode cX10_joined 9 = .ok (.if_icmp .ne 12, 3) := by decide +kernel
theorem dX10_joined_12 : decode cX10_joined 12 = .ok (.iload_n 1, 1) := by decide +kernel
theorem dX10_joined_13 : decode cX10_joined 13 = .ok (.invokestatic 108, 3) := by decide +kernel
theorem dX10_joined_16 : decode cX10_joined 16 = .ok (.ifCond .eq 5, 3) := by decide +kernel
theorem dX10_joined_19 : decode cX10_joined 19 = .ok (.iload_n 1, 1) := by decide +kernel
theorem dX10_joined_20 : decode cX10_joined 20 = .ok (.ireturn, 1) := by decide +kernel
theorem dX10_joined_21 : decode cX10_joined 21 = .ok (.iload_n 1, 1) := by decide +kernel
theorem dX10_joined_22 : decode cX10_joined 22 = .ok (.iconst 4, 1) := by decide +kernel
theorem dX10_joined_23 : decode cX10_joined 23 = .ok (.if_icmp .ne 12, 3) := by decide +kernel
theorem dX10_joined_26 : decode cX10_joined 26 = .ok (.iload_n 0, 1) := by decide +kernel
theorem dX10_joined_27 : decode cX10_joined 27 = .ok (.invokestatic 108, 3) := by decide +kernel
theorem dX10_joined_30 : decode cX10_joined 30 = .ok (.ifCond .eq 5, 3) := by decide +kernel
theorem dX10_joined_33 : decode cX10_joined 33 = .ok (.iload_n 0, 1) := by decide +kernel
theorem dX10_joined_34 : decode cX10_joined 34 = .ok (.ireturn, 1) := by decide +kernel
theorem dX10_joined_35 : decode cX10_joined 35 = .ok (.iload_n 0, 1) := by decide +kernel
theorem dX10_joined_36 : decode cX10_joined 36 = .ok (.invokestatic 95, 3) := by decide +kernel
theorem dX10_joined_39 : decode cX10_joined 39 = .ok (.ifCond .eq 25, 3) := by decide +kernel
theorem dX10_joined_42 : decode cX10_joined 42 = .ok (.iload_n 1, 1) := by decide +kernel
theorem dX10_joined_43 : decode cX10_joined 43 = .ok (.invokestatic 95, 3) := by decide +kernel
theorem dX10_joined_46 : decode cX10_joined 46 = .ok (.ifCond .eq 18, 3) := by decide +kernel
theorem dX10_joined_49 : decode cX10_joined 49 = .ok (.bipush 10, 2) := by decide +kernel
theorem dX10_joined_51 : decode cX10_joined 51 = .ok (.iload_n 0, 1) := by decide +kernel
theorem dX10_joined_52 : decode cX10_joined 52 = .ok (.bipush 10, 2) := by decide +kernel
theorem dX10_joined_54 : decode cX10_joined 54 = .ok (.isub, 1) := by decide +kernel
theorem dX10_joined_55 : decode cX10_joined 55 = .ok (.iload_n 1, 1) := by decide +kernel
theorem dX10_joined_56 : decode cX10_joined 56 = .ok (.bipush 10, 2) := by decide +kernel
theorem dX10_joined_58 : decode cX10_joined 58 = .ok (.isub, 1) := by decide +kernel
theorem dX10_joined_59 : decode cX10_joined 59 = .ok (.invokestatic 115, 3) := by decide +kernel
theorem dX10_joined_62 : decode cX10_joined 62 = .ok (.iadd, 1) := by decide +kernel
theorem dX10_joined_63 : decode cX10_joined 63 = .ok (.ireturn, 1) := by decide +kernel
theorem dX10_joined_64 : decode cX10_joined 64 = .ok (.iload_n 0, 1) := by decide +kernel
theorem dX10_joined_65 : decode cX10_joined 65 = .ok (.invokestatic 99, 3) := by decide +kernel
theorem dX10_joined_68 : decode cX10_joined 68 = .ok (.ifCond .eq 25, 3) := by decide +kernel
theorem dX10_joined_71 : decode cX10_joined 71 = .ok (.iload_n 1, 1) := by decide +kernel
theorem dX10_joined_72 : decode cX10_joined 72 = .ok (.invokestatic 99, 3) := by decide +kernel
theorem dX10_joined_75 : decode cX10_joined 75 = .ok (.ifCond .eq 18, 3) := by decide +kernel
theorem dX10_joined_78 : decode cX10_joined 78 = .ok (.bipush 20, 2) := by decide +kernel
theorem dX10_joined_80 : decode cX10_joined 80 = .ok (.iload_n 0, 1) := by decide +kernel
theorem dX10_joined_81 : decode cX10_joined 81 = .ok (.bipush 20, 2) := by decide +kernel
theorem dX10_joined_83 : decode cX10_joined 83 = .ok (.isub, 1) := by decide +kernel
theorem dX10_joined_84 : decode cX10_joined 84 = .ok (.iload_n 1, 1) := by decide +kernel
theorem dX10_joined_85 : decode cX10_joined 85 = .ok (.bipush 20, 2) := by decide +kernel
theorem dX10_joined_87 : decode cX10_joined 87 = .ok (.isub, 1) := by decide +kernel
theorem dX10_joined_88 : decode cX10_joined 88 = .ok (.invokestatic 115, 3) := by decide +kernel
theorem dX10_joined_91 : decode cX10_joined 91 = .ok (.iadd, 1) := by decide +kernel
theorem dX10_joined_92 : decode cX10_joined 92 = .ok (.ireturn, 1) := by decide +kernel
theorem dX10_joined_93 : decode cX10_joined 93 = .ok (.iload_n 0, 1) := by decide +kernel
theorem dX10_joined_94 : decode cX10_joined 94 = .ok (.invokestatic 108, 3) := by decide +kernel
theorem dX10_joined_97 : decode cX10_joined 97 = .ok (.ifCond .eq 15, 3) := by decide +kernel
theorem dX10_joined_100 : decode cX10_joined 100 = .ok (.iload_n 1, 1) := by decide +kernel
theorem dX10_joined_101 : decode cX10_joined 101 = .ok (.invokestatic 108, 3) := by decide +kernel
theorem dX10_joined_104 : decode cX10_joined 104 = .ok (.ifCond .eq 8, 3) := by decide +kernel
theorem dX10_joined_107 : decode cX10_joined 107 = .ok (.bipush 10, 2) := by decide +kernel
theorem dX10_joined_109 : decode cX10_joined 109 = .ok (.goto 4, 3) := by decide +kernel
theorem dX10_joined_112 : decode cX10_joined 112 = .ok (.iconst 0, 1) := by decide +kernel
theorem dX10_joined_113 : decode cX10_joined 113 = .ok (.ireturn, 1) := by decide +kernel
theorem dX10_kinds_0 : decode cX10_kinds 0 = .ok (.iload_n 1, 1) := by decide +kernel
theorem dX10_kinds_1 : decode cX10_kinds 1 = .ok (.invokestatic 119, 3) := by decide +kernel
theorem dX10_kinds_4 : decode cX10_kinds 4 = .ok (.ifCond .eq 10, 3) := by decide +kernel
theorem dX10_kinds_7 : decode cX10_kinds 7 = .ok (.iload_n 2, 1) := by decide +kernel
theorem dX10_kinds_8 : decode cX10_kinds 8 = .ok (.invokestatic 119, 3) := by decide +kernel
theorem dX10_kinds_11 : decode cX10_kinds 11 = .ok (.ifCond .ne 5, 3) := by decide +kernel
theorem dX10_kinds_14 : decode cX10_kinds 14 = .ok (.iconst (-1), 1) := by decide +kernel
theorem dX10_kinds_15 : decode cX10_kinds 15 = .ok (.ireturn, 1) := by decide +kernel
theorem dX10_kinds_16 : decode cX10_kinds 16 = .ok (.iload_n 3, 1) := by decide +kernel
theorem dX10_kinds_17 : decode cX10_kinds 17 = .ok (.ifCond .ne 11, 3) := by decide +kernel
theorem dX10_kinds_20 : decode cX10_kinds 20 = .ok (.iload_n 1, 1) := by decide +kernel
theorem dX10_kinds_21 : decode cX10_kinds 21 = .ok (.iload_n 2, 1) := by decide +kernel
theorem dX10_kinds_22 : decode cX10_kinds 22 = .ok (.invokestatic 122, 3) := by decide +kernel
theorem dX10_kinds_25 : decode cX10_kinds 25 = .ok (.goto 16, 3) := by decide +kernel
theorem dX10_kinds_28 : decode cX10_kinds 28 = .ok (.iload_n 1, 1) := by decide +kernel
theorem dX10_kinds_29 : decode cX10_kinds 29 = .ok (.iload_n 2, 1) := by decide +kernel
theorem dX10_kinds_30 : decode cX10_kinds 30 = .ok (.invokestatic 125, 3) := by decide +kernel
theorem dX10_kinds_33 : decode cX10_kinds 33 = .ok (.ifCond .eq 7, 3) := by decide +kernel
theorem dX10_kinds_36 : decode cX10_kinds 36 = .ok (.iconst 1, 1) := by decide +kernel
theorem dX10_kinds_37 : decode cX10_kinds 37 = .ok (.goto 4, 3) := by decide +kernel
theorem dX10_kinds_40 : decode cX10_kinds 40 = .ok (.iconst 0, 1) := by decide +kernel
theorem dX10_kinds_41 : decode cX10_kinds 41 = .ok (.ireturn, 1) := by decide +kernel
theorem dX10_method_0 : decode cX10_method 0 = .ok (.iload_n 1, 1) := by decide +kernel
theorem dX10_method_1 : decode cX10_method 1 = .ok (.i2l, 1) := by decide +kernel
theorem dX10_method_2 : decode cX10_method 2 = .ok (.lconst 0, 1) := by decide +kernel
theorem dX10_method_3 : decode cX10_method 3 = .ok (.ldc2_w 128, 3) := by decide +kernel
theorem dX10_method_6 : decode cX10_method 6 = .ok (.invokestatic 79, 3) := by decide +kernel
theorem dX10_method_9 : decode cX10_method 9 = .ok (.ifCond .ne 5, 3) := by decide +kernel
theorem dX10_method_12 : decode cX10_method 12 = .ok (.iconst (-1), 1) := by decide +kernel
theorem dX10_method_13 : decode cX10_method 13 = .ok (.ireturn, 1) := by decide +kernel
theorem dX10_method_14 : decode cX10_method 14 = .ok (.aload_n 0, 1) := by decide +kernel
theorem dX10_method_15 : decode cX10_method 15 = .ok (.getfield 75, 3) := by decide +kernel
theorem dX10_method_18 : decode cX10_method 18 = .ok (.bipush 8, 2) := by decide +kernel
theorem dX10_method_20 : decode cX10_method 20 = .ok (.if_icmp .ne 6, 3) := by decide +kernel
theorem dX10_method_23 : decode cX10_method 23 = .ok (.bipush (-3), 2) := by decide +kernel
theorem dX10_method_25 : decode cX10_method 25 = .ok (.ireturn, 1) := by decide +kernel
theorem dX10_method_26 : decode cX10_method 26 = .ok (.aload_n 0, 1) := by decide +kernel
theorem dX10_method_27 : decode cX10_method 27 = .ok (.getfield 7, 3) := by decide +kernel
theorem dX10_method_30 : decode cX10_method 30 = .ok (.aload_n 0, 1) := by decide +kernel
theorem dX10_method_31 : decode cX10_method 31 = .ok (.getfield 75, 3) := by decide +kernel
theorem dX10_method_34 : decode cX10_method 34 = .ok (.iload_n 1, 1) := by decide +kernel
theorem dX10_method_35 : decode cX10_method 35 = .ok (.iastore, 1) := by decide +kernel
theorem dX10_method_36 : decode cX10_method 36 = .ok (.iconst 0, 1) := by decide +kernel
theorem dX10_method_37 : decode cX10_method 37 = .ok (.istore_n 2, 1) := by decide +kernel
theorem dX10_method_38 : decode cX10_method 38 = .ok (.iload_n 2, 1) := by decide +kernel
theorem dX10_method_39 : decode cX10_method 39 = .ok (.bipush 40, 2) := by decide +kernel
theorem dX10_method_41 : decode cX10_method 41 = .ok (.if_icmp .ge 24, 3) := by decide +kernel
theorem dX10_method_44 : decode cX10_method 44 = .ok (.aload_n 0, 1) := by decide +kernel
theorem dX10_method_45 : decode cX10_method 45 = .ok (.getfield 29, 3) := by decide +kernel
theorem dX10_method_48 : decode cX10_method 48 = .ok (.bipush 40, 2) := by decide +kernel
theorem dX10_method_50 : decode cX10_method 50 = .ok (.aload_n 0, 1) := by decide +kernel
theorem dX10_method_51 : decode cX10_method 51 = .ok (.getfield 75, 3) := by decide +kernel
theorem dX10_method_54 : decode cX10_method 54 = .ok (.imul, 1) := by decide +kernel
theorem dX10_method_55 : decode cX10_method 55 = .ok (.iload_n 2, 1) := by decide +kernel
theorem dX10_method_56 : decode cX10_method 56 = .ok (.iadd, 1) := by decide +kernel
theorem dX10_method_57 : decode cX10_method 57 = .ok (.iconst (-1), 1) := by decide +kernel
theorem dX10_method_58 : decode cX10_method 58 = .ok (.iastore, 1) := by decide +kernel
theorem dX10_method_59 : decode cX10_method 59 = .ok (.iinc 2 1, 3) := by decide +kernel
theorem dX10_method_62 : decode cX10_method 62 = .ok (.goto (-24), 3) := by decide +kernel
theorem dX10_method_65 : decode cX10_method 65 = .ok (.aload_n 0, 1) := by decide +kernel
end
section
theorem dX10_method_66 : decode cX10_method 66 = .ok (.dup, 1) := by decide +kernel
theorem dX10_method_67 : decode cX10_method 67 = .ok (.getfield 75, 3) := by decide +kernel
theorem dX10_method_70 : decode cX10_method 70 = .ok (.iconst 1, 1) := by decide +kernel
theorem dX10_method_71 : decode cX10_method 71 = .ok (.iadd, 1) := by decide +kernel
theorem dX10_method_72 : decode cX10_method 72 = .ok (.putfield 75, 3) := by decide +kernel
theorem dX10_method_75 : decode cX10_method 75 = .ok (.aload_n 0, 1) := by decide +kernel
theorem dX10_method_76 : decode cX10_method 76 = .ok (.getfield 75, 3) := by decide +kernel
theorem dX10_method_79 : decode cX10_method 79 = .ok (.iconst 1, 1) := by decide +kernel
theorem dX10_method_80 : decode cX10_method 80 = .ok (.isub, 1) := by decide +kernel
theorem dX10_method_81 : decode cX10_method 81 = .ok (.ireturn, 1) := by decide +kernel
theorem dX10_changed_0 : decode cX10_changed 0 = .ok (.aload_n 0, 1) := by decide +kernel
theorem dX10_changed_1 : decode cX10_changed 1 = .ok (.getfield 35, 3) := by decide +kernel
theorem dX10_changed_4 : decode cX10_changed 4 = .ok (.iload_n 1, 1) := by decide +kernel
theorem dX10_changed_5 : decode cX10_changed 5 = .ok (.iconst 0, 1) := by decide +kernel
theorem dX10_changed_6 : decode cX10_changed 6 = .ok (.bastore, 1) := by decide +kernel
theorem dX10_changed_7 : decode cX10_changed 7 = .ok (.return_, 1) := by decide +kernel
theorem dX10_op_0 : decode cX10_op 0 = .ok (.aload_n 0, 1) := by decide +kernel
theorem dX10_op_1 : decode cX10_op 1 = .ok (.iload_n 1, 1) := by decide +kernel
theorem dX10_op_2 : decode cX10_op 2 = .ok (.invokevirtual 130, 3) := by decide +kernel
theorem dX10_op_5 : decode cX10_op 5 = .ok (.ifCond .ne 5, 3) := by decide +kernel
theorem dX10_op_8 : decode cX10_op 8 = .ok (.iconst (-1), 1) := by decide +kernel
theorem dX10_op_9 : decode cX10_op 9 = .ok (.ireturn, 1) := by decide +kernel
theorem dX10_op_10 : decode cX10_op 10 = .ok (.aload_n 0, 1) := by decide +kernel
theorem dX10_op_11 : decode cX10_op 11 = .ok (.getfield 13, 3) := by decide +kernel
theorem dX10_op_14 : decode cX10_op 14 = .ok (.iload_n 1, 1) := by decide +kernel
theorem dX10_op_15 : decode cX10_op 15 = .ok (.iaload, 1) := by decide +kernel
theorem dX10_op_16 : decode cX10_op 16 = .ok (.bipush 40, 2) := by decide +kernel
theorem dX10_op_18 : decode cX10_op 18 = .ok (.if_icmp .ne 6, 3) := by decide +kernel
theorem dX10_op_21 : decode cX10_op 21 = .ok (.bipush (-3), 2) := by decide +kernel
theorem dX10_op_23 : decode cX10_op 23 = .ok (.ireturn, 1) := by decide +kernel
theorem dX10_op_24 : decode cX10_op 24 = .ok (.aload_n 0, 1) := by decide +kernel
theorem dX10_op_25 : decode cX10_op 25 = .ok (.getfield 16, 3) := by decide +kernel
theorem dX10_op_28 : decode cX10_op 28 = .ok (.bipush 40, 2) := by decide +kernel
theorem dX10_op_30 : decode cX10_op 30 = .ok (.iload_n 1, 1) := by decide +kernel
theorem dX10_op_31 : decode cX10_op 31 = .ok (.imul, 1) := by decide +kernel
theorem dX10_op_32 : decode cX10_op 32 = .ok (.aload_n 0, 1) := by decide +kernel
theorem dX10_op_33 : decode cX10_op 33 = .ok (.getfield 13, 3) := by decide +kernel
theorem dX10_op_36 : decode cX10_op 36 = .ok (.iload_n 1, 1) := by decide +kernel
theorem dX10_op_37 : decode cX10_op 37 = .ok (.iaload, 1) := by decide +kernel
theorem dX10_op_38 : decode cX10_op 38 = .ok (.iadd, 1) := by decide +kernel
theorem dX10_op_39 : decode cX10_op 39 = .ok (.iload_n 2, 1) := by decide +kernel
theorem dX10_op_40 : decode cX10_op 40 = .ok (.iastore, 1) := by decide +kernel
theorem dX10_op_41 : decode cX10_op 41 = .ok (.aload_n 0, 1) := by decide +kernel
theorem dX10_op_42 : decode cX10_op 42 = .ok (.getfield 19, 3) := by decide +kernel
theorem dX10_op_45 : decode cX10_op 45 = .ok (.bipush 40, 2) := by decide +kernel
theorem dX10_op_47 : decode cX10_op 47 = .ok (.iload_n 1, 1) := by decide +kernel
theorem dX10_op_48 : decode cX10_op 48 = .ok (.imul, 1) := by decide +kernel
theorem dX10_op_49 : decode cX10_op 49 = .ok (.aload_n 0, 1) := by decide +kernel
theorem dX10_op_50 : decode cX10_op 50 = .ok (.getfield 13, 3) := by decide +kernel
theorem dX10_op_53 : decode cX10_op 53 = .ok (.iload_n 1, 1) := by decide +kernel
theorem dX10_op_54 : decode cX10_op 54 = .ok (.iaload, 1) := by decide +kernel
theorem dX10_op_55 : decode cX10_op 55 = .ok (.iadd, 1) := by decide +kernel
theorem dX10_op_56 : decode cX10_op 56 = .ok (.lload_n 3, 1) := by decide +kernel
theorem dX10_op_57 : decode cX10_op 57 = .ok (.lastore, 1) := by decide +kernel
theorem dX10_op_58 : decode cX10_op 58 = .ok (.aload_n 0, 1) := by decide +kernel
theorem dX10_op_59 : decode cX10_op 59 = .ok (.getfield 13, 3) := by decide +kernel
theorem dX10_op_62 : decode cX10_op 62 = .ok (.iload_n 1, 1) := by decide +kernel
theorem dX10_op_63 : decode cX10_op 63 = .ok (.dup2, 1) := by decide +kernel
theorem dX10_op_64 : decode cX10_op 64 = .ok (.iaload, 1) := by decide +kernel
theorem dX10_op_65 : decode cX10_op 65 = .ok (.iconst 1, 1) := by decide +kernel
theorem dX10_op_66 : decode cX10_op 66 = .ok (.iadd, 1) := by decide +kernel
theorem dX10_op_67 : decode cX10_op 67 = .ok (.iastore, 1) := by decide +kernel
theorem dX10_op_68 : decode cX10_op 68 = .ok (.aload_n 0, 1) := by decide +kernel
theorem dX10_op_69 : decode cX10_op 69 = .ok (.iload_n 1, 1) := by decide +kernel
theorem dX10_op_70 : decode cX10_op 70 = .ok (.invokevirtual 133, 3) := by decide +kernel
theorem dX10_op_73 : decode cX10_op 73 = .ok (.aload_n 0, 1) := by decide +kernel
theorem dX10_op_74 : decode cX10_op 74 = .ok (.getfield 13, 3) := by decide +kernel
theorem dX10_op_77 : decode cX10_op 77 = .ok (.iload_n 1, 1) := by decide +kernel
theorem dX10_op_78 : decode cX10_op 78 = .ok (.iaload, 1) := by decide +kernel
theorem dX10_op_79 : decode cX10_op 79 = .ok (.iconst 1, 1) := by decide +kernel
theorem dX10_op_80 : decode cX10_op 80 = .ok (.isub, 1) := by decide +kernel
theorem dX10_op_81 : decode cX10_op 81 = .ok (.ireturn, 1) := by decide +kernel
theorem dX10_handler_0 : decode cX10_handler 0 = .ok (.aload_n 0, 1) := by decide +kernel
theorem dX10_handler_1 : decode cX10_handler 1 = .ok (.iload_n 1, 1) := by decide +kernel
theorem dX10_handler_2 : decode cX10_handler 2 = .ok (.invokevirtual 130, 3) := by decide +kernel
theorem dX10_handler_5 : decode cX10_handler 5 = .ok (.ifCond .eq 44, 3) := by decide +kernel
theorem dX10_handler_8 : decode cX10_handler 8 = .ok (.iload_n 2, 1) := by decide +kernel
theorem dX10_handler_9 : decode cX10_handler 9 = .ok (.ifCond .lt 40, 3) := by decide +kernel
theorem dX10_handler_12 : decode cX10_handler 12 = .ok (.iload_n 2, 1) := by decide +kernel
theorem dX10_handler_13 : decode cX10_handler 13 = .ok (.iload_n 3, 1) := by decide +kernel
theorem dX10_handler_14 : decode cX10_handler 14 = .ok (.if_icmp .ge 35, 3) := by decide +kernel
theorem dX10_handler_17 : decode cX10_handler 17 = .ok (.iload_n 3, 1) := by decide +kernel
theorem dX10_handler_18 : decode cX10_handler 18 = .ok (.bipush 40, 2) := by decide +kernel
theorem dX10_handler_20 : decode cX10_handler 20 = .ok (.if_icmp .gt 29, 3) := by decide +kernel
theorem dX10_handler_23 : decode cX10_handler 23 = .ok (.iload 4, 2) := by decide +kernel
theorem dX10_handler_25 : decode cX10_handler 25 = .ok (.i2l, 1) := by decide +kernel
theorem dX10_handler_26 : decode cX10_handler 26 = .ok (.lconst 0, 1) := by decide +kernel
theorem dX10_handler_27 : decode cX10_handler 27 = .ok (.ldc2_w 137, 3) := by decide +kernel
theorem dX10_handler_30 : decode cX10_handler 30 = .ok (.invokestatic 79, 3) := by decide +kernel
theorem dX10_handler_33 : decode cX10_handler 33 = .ok (.ifCond .eq 16, 3) := by decide +kernel
theorem dX10_handler_36 : decode cX10_handler 36 = .ok (.iload 5, 2) := by decide +kernel
theorem dX10_handler_38 : decode cX10_handler 38 = .ok (.i2l, 1) := by decide +kernel
theorem dX10_handler_39 : decode cX10_handler 39 = .ok (.lconst 0, 1) := by decide +kernel
theorem dX10_handler_40 : decode cX10_handler 40 = .ok (.ldc2_w 139, 3) := by decide +kernel
theorem dX10_handler_43 : decode cX10_handler 43 = .ok (.invokestatic 79, 3) := by decide +kernel
theorem dX10_handler_46 : decode cX10_handler 46 = .ok (.ifCond .ne 5, 3) := by decide +kernel
theorem dX10_handler_49 : decode cX10_handler 49 = .ok (.iconst (-1), 1) := by decide +kernel
theorem dX10_handler_50 : decode cX10_handler 50 = .ok (.ireturn, 1) := by decide +kernel
theorem dX10_handler_51 : decode cX10_handler 51 = .ok (.aload_n 0, 1) := by decide +kernel
theorem dX10_handler_52 : decode cX10_handler 52 = .ok (.getfield 23, 3) := by decide +kernel
theorem dX10_handler_55 : decode cX10_handler 55 = .ok (.iload_n 1, 1) := by decide +kernel
theorem dX10_handler_56 : decode cX10_handler 56 = .ok (.iaload, 1) := by decide +kernel
theorem dX10_handler_57 : decode cX10_handler 57 = .ok (.bipush 6, 2) := by decide +kernel
theorem dX10_handler_59 : decode cX10_handler 59 = .ok (.if_icmp .ne 6, 3) := by decide +kernel
theorem dX10_handler_62 : decode cX10_handler 62 = .ok (.bipush (-3), 2) := by decide +kernel
theorem dX10_handler_64 : decode cX10_handler 64 = .ok (.ireturn, 1) := by decide +kernel
theorem dX10_handler_65 : decode cX10_handler 65 = .ok (.iconst 4, 1) := by decide +kernel
theorem dX10_handler_66 : decode cX10_handler 66 = .ok (.bipush 6, 2) := by decide +kernel
theorem dX10_handler_68 : decode cX10_handler 68 = .ok (.iload_n 1, 1) := by decide +kernel
theorem dX10_handler_69 : decode cX10_handler 69 = .ok (.imul, 1) := by decide +kernel
theorem dX10_handler_70 : decode cX10_handler 70 = .ok (.aload_n 0, 1) := by decide +kernel
theorem dX10_handler_71 : decode cX10_handler 71 = .ok (.getfield 23, 3) := by decide +kernel
theorem dX10_handler_74 : decode cX10_handler 74 = .ok (.iload_n 1, 1) := by decide +kernel
theorem dX10_handler_75 : decode cX10_handler 75 = .ok (.iaload, 1) := by decide +kernel
theorem dX10_handler_76 : decode cX10_handler 76 = .ok (.iadd, 1) := by decide +kernel
theorem dX10_handler_77 : decode cX10_handler 77 = .ok (.imul, 1) := by decide +kernel
theorem dX10_handler_78 : decode cX10_handler 78 = .ok (.istore 6, 2) := by decide +kernel
theorem dX10_handler_80 : decode cX10_handler 80 = .ok (.aload_n 0, 1) := by decide +kernel
theorem dX10_handler_81 : decode cX10_handler 81 = .ok (.getfield 26, 3) := by decide +kernel
theorem dX10_handler_84 : decode cX10_handler 84 = .ok (.iload 6, 2) := by decide +kernel
theorem dX10_handler_86 : decode cX10_handler 86 = .ok (.iload_n 2, 1) := by decide +kernel
theorem dX10_handler_87 : decode cX10_handler 87 = .ok (.iastore, 1) := by decide +kernel
theorem dX10_handler_88 : decode cX10_handler 88 = .ok (.aload_n 0, 1) := by decide +kernel
theorem dX10_handler_89 : decode cX10_handler 89 = .ok (.getfield 26, 3) := by decide +kernel
theorem dX10_handler_92 : decode cX10_handler 92 = .ok (.iload 6, 2) := by decide +kernel
theorem dX10_handler_94 : decode cX10_handler 94 = .ok (.iconst 1, 1) := by decide +kernel
theorem dX10_handler_95 : decode cX10_handler 95 = .ok (.iadd, 1) := by decide +kernel
theorem dX10_handler_96 : decode cX10_handler 96 = .ok (.iload_n 3, 1) := by decide +kernel
theorem dX10_handler_97 : decode cX10_handler 97 = .ok (.iastore, 1) := by decide +kernel
theorem dX10_handler_98 : decode cX10_handler 98 = .ok (.aload_n 0, 1) := by decide +kernel
theorem dX10_handler_99 : decode cX10_handler 99 = .ok (.getfield 26, 3) := by decide +kernel
theorem dX10_handler_102 : decode cX10_handler 102 = .ok (.iload 6, 2) := by decide +kernel
theorem dX10_handler_104 : decode cX10_handler 104 = .ok (.iconst 2, 1) := by decide +kernel
theorem dX10_handler_105 : decode cX10_handler 105 = .ok (.iadd, 1) := by decide +kernel
theorem dX10_handler_106 : decode cX10_handler 106 = .ok (.iload 4, 2) := by decide +kernel
theorem dX10_handler_108 : decode cX10_handler 108 = .ok (.iastore, 1) := by decide +kernel
theorem dX10_handler_109 : decode cX10_handler 109 = .ok (.aload_n 0, 1) := by decide +kernel
theorem dX10_handler_110 : decode cX10_handler 110 = .ok (.getfield 26, 3) := by decide +kernel
theorem dX10_handler_113 : decode cX10_handler 113 = .ok (.iload 6, 2) := by decide +kernel
theorem dX10_handler_115 : decode cX10_handler 115 = .ok (.iconst 3, 1) := by decide +kernel
theorem dX10_handler_116 : decode cX10_handler 116 = .ok (.iadd, 1) := by decide +kernel
theorem dX10_handler_117 : decode cX10_handler 117 = .ok (.iload 5, 2) := by decide +kernel
theorem dX10_handler_119 : decode cX10_handler 119 = .ok (.iastore, 1) := by decide +kernel
theorem dX10_handler_120 : decode cX10_handler 120 = .ok (.aload_n 0, 1) := by decide +kernel
theorem dX10_handler_121 : decode cX10_handler 121 = .ok (.getfield 23, 3) := by decide +kernel
theorem dX10_handler_124 : decode cX10_handler 124 = .ok (.iload_n 1, 1) := by decide +kernel
theorem dX10_handler_125 : decode cX10_handler 125 = .ok (.dup2, 1) := by decide +kernel
theorem dX10_handler_126 : decode cX10_handler 126 = .ok (.iaload, 1) := by decide +kernel
theorem dX10_handler_127 : decode cX10_handler 127 = .ok (.iconst 1, 1) := by decide +kernel
theorem dX10_handler_128 : decode cX10_handler 128 = .ok (.iadd, 1) := by decide +kernel
theorem dX10_handler_129 : decode cX10_handler 129 = .ok (.iastore, 1) := by decide +kernel
theorem dX10_handler_130 : decode cX10_handler 130 = .ok (.aload_n 0, 1) := by decide +kernel
theorem dX10_handler_131 : decode cX10_handler 131 = .ok (.iload_n 1, 1) := by decide +kernel
theorem dX10_handler_132 : decode cX10_handler 132 = .ok (.invokevirtual 133, 3) := by decide +kernel
theorem dX10_handler_135 : decode cX10_handler 135 = .ok (.aload_n 0, 1) := by decide +kernel
theorem dX10_handler_136 : decode cX10_handler 136 = .ok (.getfield 23, 3) := by decide +kernel
theorem dX10_handler_139 : decode cX10_handler 139 = .ok (.iload_n 1, 1) := by decide +kernel
theorem dX10_handler_140 : decode cX10_handler 140 = .ok (.iaload, 1) := by decide +kernel
theorem dX10_handler_141 : decode cX10_handler 141 = .ok (.ireturn, 1) := by decide +kernel
theorem dX10_frame_0 : decode cX10_frame 0 = .ok (.aload_n 0, 1) := by decide +kernel
theorem dX10_frame_1 : decode cX10_frame 1 = .ok (.iload_n 1, 1) := by decide +kernel
theorem dX10_frame_2 : decode cX10_frame 2 = .ok (.invokevirtual 130, 3) := by decide +kernel
theorem dX10_frame_5 : decode cX10_frame 5 = .ok (.ifCond .eq 29, 3) := by decide +kernel
theorem dX10_frame_8 : decode cX10_frame 8 = .ok (.iload_n 2, 1) := by decide +kernel
theorem dX10_frame_9 : decode cX10_frame 9 = .ok (.i2l, 1) := by decide +kernel
theorem dX10_frame_10 : decode cX10_frame 10 = .ok (.lconst 0, 1) := by decide +kernel
theorem dX10_frame_11 : decode cX10_frame 11 = .ok (.ldc2_w 137, 3) := by decide +kernel
theorem dX10_frame_14 : decode cX10_frame 14 = .ok (.invokestatic 79, 3) := by decide +kernel
theorem dX10_frame_17 : decode cX10_frame 17 = .ok (.ifCond .eq 17, 3) := by decide +kernel
theorem dX10_frame_20 : decode cX10_frame 20 = .ok (.iload_n 3, 1) := by decide +kernel
theorem dX10_frame_21 : decode cX10_frame 21 = .ok (.i2l, 1) := by decide +kernel
theorem dX10_frame_22 : decode cX10_frame 22 = .ok (.ldc2_w 141, 3) := by decide +kernel
theorem dX10_frame_25 : decode cX10_frame 25 = .ok (.ldc2_w 143, 3) := by decide +kernel
theorem dX10_frame_28 : decode cX10_frame 28 = .ok (.invokestatic 79, 3) := by decide +kernel
theorem dX10_frame_31 : decode cX10_frame 31 = .ok (.ifCond .ne 5, 3) := by decide +kernel
theorem dX10_frame_34 : decode cX10_frame 34 = .ok (.iconst (-1), 1) := by decide +kernel
theorem dX10_frame_35 : decode cX10_frame 35 = .ok (.ireturn, 1) := by decide +kernel
theorem dX10_frame_36 : decode cX10_frame 36 = .ok (.aload_n 0, 1) := by decide +kernel
theorem dX10_frame_37 : decode cX10_frame 37 = .ok (.getfield 29, 3) := by decide +kernel
theorem dX10_frame_40 : decode cX10_frame 40 = .ok (.bipush 40, 2) := by decide +kernel
theorem dX10_frame_42 : decode cX10_frame 42 = .ok (.iload_n 1, 1) := by decide +kernel
theorem dX10_frame_43 : decode cX10_frame 43 = .ok (.imul, 1) := by decide +kernel
theorem dX10_frame_44 : decode cX10_frame 44 = .ok (.iload_n 2, 1) := by decide +kernel
theorem dX10_frame_45 : decode cX10_frame 45 = .ok (.iadd, 1) := by decide +kernel
theorem dX10_frame_46 : decode cX10_frame 46 = .ok (.iload_n 3, 1) := by decide +kernel
theorem dX10_frame_47 : decode cX10_frame 47 = .ok (.iastore, 1) := by decide +kernel
theorem dX10_frame_48 : decode cX10_frame 48 = .ok (.iconst 0, 1) := by decide +kernel
theorem dX10_frame_49 : decode cX10_frame 49 = .ok (.istore 4, 2) := by decide +kernel
theorem dX10_frame_51 : decode cX10_frame 51 = .ok (.iload 4, 2) := by decide +kernel
theorem dX10_frame_53 : decode cX10_frame 53 = .ok (.bipush 16, 2) := by decide +kernel
theorem dX10_frame_55 : decode cX10_frame 55 = .ok (.if_icmp .ge 27, 3) := by decide +kernel
theorem dX10_frame_58 : decode cX10_frame 58 = .ok (.aload_n 0, 1) := by decide +kernel
theorem dX10_frame_59 : decode cX10_frame 59 = .ok (.getfield 32, 3) := by decide +kernel
theorem dX10_frame_62 : decode cX10_frame 62 = .ok (.bipush 16, 2) := by decide +kernel
theorem dX10_frame_64 : decode cX10_frame 64 = .ok (.bipush 40, 2) := by decide +kernel
theorem dX10_frame_66 : decode cX10_frame 66 = .ok (.iload_n 1, 1) := by decide +kernel
theorem dX10_frame_67 : decode cX10_frame 67 = .ok (.imul, 1) := by decide +kernel
theorem dX10_frame_68 : decode cX10_frame 68 = .ok (.iload_n 2, 1) := by decide +kernel
theorem dX10_frame_69 : decode cX10_frame 69 = .ok (.iadd, 1) := by decide +kernel
theorem dX10_frame_70 : decode cX10_frame 70 = .ok (.imul, 1) := by decide +kernel
theorem dX10_frame_71 : decode cX10_frame 71 = .ok (.iload 4, 2) := by decide +kernel
theorem dX10_frame_73 : decode cX10_frame 73 = .ok (.iadd, 1) := by decide +kernel
theorem dX10_frame_74 : decode cX10_frame 74 = .ok (.iconst 0, 1) := by decide +kernel
theorem dX10_frame_75 : decode cX10_frame 75 = .ok (.iastore, 1) := by decide +kernel
theorem dX10_frame_76 : decode cX10_frame 76 = .ok (.iinc 4 1, 3) := by decide +kernel
theorem dX10_frame_79 : decode cX10_frame 79 = .ok (.goto (-28), 3) := by decide +kernel
theorem dX10_frame_82 : decode cX10_frame 82 = .ok (.aload_n 0, 1) := by decide +kernel
theorem dX10_frame_83 : decode cX10_frame 83 = .ok (.iload_n 1, 1) := by decide +kernel
theorem dX10_frame_84 : decode cX10_frame 84 = .ok (.invokevirtual 133, 3) := by decide +kernel
theorem dX10_frame_87 : decode cX10_frame 87 = .ok (.iconst 0, 1) := by decide +kernel
theorem dX10_frame_88 : decode cX10_frame 88 = .ok (.ireturn, 1) := by decide +kernel
theorem dX10_set_0 : decode cX10_set 0 = .ok (.aload_n 0, 1) := by decide +kernel
theorem dX10_set_1 : decode cX10_set 1 = .ok (.iload_n 1, 1) := by decide +kernel
theorem dX10_set_2 : decode cX10_set 2 = .ok (.invokevirtual 130, 3) := by decide +kernel
theorem dX10_set_5 : decode cX10_set 5 = .ok (.ifCond .eq 61, 3) := by decide +kernel
theorem dX10_set_8 : decode cX10_set 8 = .ok (.iload_n 2, 1) := by decide +kernel
theorem dX10_set_9 : decode cX10_set 9 = .ok (.i2l, 1) := by decide +kernel
theorem dX10_set_10 : decode cX10_set 10 = .ok (.lconst 0, 1) := by decide +kernel
theorem dX10_set_11 : decode cX10_set 11 = .ok (.ldc2_w 137, 3) := by decide +kernel
theorem dX10_set_14 : decode cX10_set 14 = .ok (.invokestatic 79, 3) := by decide +kernel
theorem dX10_set_17 : decode cX10_set 17 = .ok (.ifCond .eq 49, 3) := by decide +kernel
theorem dX10_set_20 : decode cX10_set 20 = .ok (.aload_n 0, 1) := by decide +kernel
theorem dX10_set_21 : decode cX10_set 21 = .ok (.getfield 29, 3) := by decide +kernel
theorem dX10_set_24 : decode cX10_set 24 = .ok (.bipush 40, 2) := by decide +kernel
theorem dX10_set_26 : decode cX10_set 26 = .ok (.iload_n 1, 1) := by decide +kernel
theorem dX10_set_27 : decode cX10_set 27 = .ok (.imul, 1) := by decide +kernel
theorem dX10_set_28 : decode cX10_set 28 = .ok (.iload_n 2, 1) := by decide +kernel
theorem dX10_set_29 : decode cX10_set 29 = .ok (.iadd, 1) := by decide +kernel
theorem dX10_set_30 : decode cX10_set 30 = .ok (.iaload, 1) := by decide +kernel
theorem dX10_set_31 : decode cX10_set 31 = .ok (.ifCond .lt 35, 3) := by decide +kernel
theorem dX10_set_34 : decode cX10_set 34 = .ok (.iload_n 3, 1) := by decide +kernel
theorem dX10_set_35 : decode cX10_set 35 = .ok (.i2l, 1) := by decide +kernel
theorem dX10_set_36 : decode cX10_set 36 = .ok (.lconst 0, 1) := by decide +kernel
theorem dX10_set_37 : decode cX10_set 37 = .ok (.bipush 7, 2) := by decide +kernel
theorem dX10_set_39 : decode cX10_set 39 = .ok (.aload_n 0, 1) := by decide +kernel
theorem dX10_set_40 : decode cX10_set 40 = .ok (.getfield 29, 3) := by decide +kernel
theorem dX10_set_43 : decode cX10_set 43 = .ok (.bipush 40, 2) := by decide +kernel
theorem dX10_set_45 : decode cX10_set 45 = .ok (.iload_n 1, 1) := by decide +kernel
theorem dX10_set_46 : decode cX10_set 46 = .ok (.imul, 1) := by decide +kernel
theorem dX10_set_47 : decode cX10_set 47 = .ok (.iload_n 2, 1) := by decide +kernel
theorem dX10_set_48 : decode cX10_set 48 = .ok (.iadd, 1) := by decide +kernel
theorem dX10_set_49 : decode cX10_set 49 = .ok (.iaload, 1) := by decide +kernel
theorem dX10_set_50 : decode cX10_set 50 = .ok (.iadd, 1) := by decide +kernel
theorem dX10_set_51 : decode cX10_set 51 = .ok (.i2l, 1) := by decide +kernel
theorem dX10_set_52 : decode cX10_set 52 = .ok (.invokestatic 79, 3) := by decide +kernel
theorem dX10_set_55 : decode cX10_set 55 = .ok (.ifCond .eq 11, 3) := by decide +kernel
theorem dX10_set_58 : decode cX10_set 58 = .ok (.iload 4, 2) := by decide +kernel
theorem dX10_set_60 : decode cX10_set 60 = .ok (.invokestatic 119, 3) := by decide +kernel
theorem dX10_set_63 : decode cX10_set 63 = .ok (.ifCond .ne 5, 3) := by decide +kernel
theorem dX10_set_66 : decode cX10_set 66 = .ok (.iconst (-1), 1) := by decide +kernel
theorem dX10_set_67 : decode cX10_set 67 = .ok (.ireturn, 1) := by decide +kernel
theorem dX10_set_68 : decode cX10_set 68 = .ok (.bipush 16, 2) := by decide +kernel
theorem dX10_set_70 : decode cX10_set 70 = .ok (.bipush 40, 2) := by decide +kernel
theorem dX10_set_72 : decode cX10_set 72 = .ok (.iload_n 1, 1) := by decide +kernel
theorem dX10_set_73 : decode cX10_set 73 = .ok (.imul, 1) := by decide +kernel
theorem dX10_set_74 : decode cX10_set 74 = .ok (.iload_n 2, 1) := by decide +kernel
theorem dX10_set_75 : decode cX10_set 75 = .ok (.iadd, 1) := by decide +kernel
theorem dX10_set_76 : decode cX10_set 76 = .ok (.imul, 1) := by decide +kernel
theorem dX10_set_77 : decode cX10_set 77 = .ok (.iload_n 3, 1) := by decide +kernel
theorem dX10_set_78 : decode cX10_set 78 = .ok (.iadd, 1) := by decide +kernel
theorem dX10_set_79 : decode cX10_set 79 = .ok (.istore 5, 2) := by decide +kernel
theorem dX10_set_81 : decode cX10_set 81 = .ok (.aload_n 0, 1) := by decide +kernel
theorem dX10_set_82 : decode cX10_set 82 = .ok (.getfield 32, 3) := by decide +kernel
theorem dX10_set_85 : decode cX10_set 85 = .ok (.iload 5, 2) := by decide +kernel
theorem dX10_set_87 : decode cX10_set 87 = .ok (.iaload, 1) := by decide +kernel
theorem dX10_set_88 : decode cX10_set 88 = .ok (.istore 6, 2) := by decide +kernel
theorem dX10_set_90 : decode cX10_set 90 = .ok (.aload_n 0, 1) := by decide +kernel
theorem dX10_set_91 : decode cX10_set 91 = .ok (.getfield 32, 3) := by decide +kernel
theorem dX10_set_94 : decode cX10_set 94 = .ok (.iload 5, 2) := by decide +kernel
theorem dX10_set_96 : decode cX10_set 96 = .ok (.iload 4, 2) := by decide +kernel
theorem dX10_set_98 : decode cX10_set 98 = .ok (.iastore, 1) := by decide +kernel
theorem dX10_set_99 : decode cX10_set 99 = .ok (.aload_n 0, 1) := by decide +kernel
theorem dX10_set_100 : decode cX10_set 100 = .ok (.iload_n 1, 1) := by decide +kernel
theorem dX10_set_101 : decode cX10_set 101 = .ok (.invokevirtual 133, 3) := by decide +kernel
theorem dX10_set_104 : decode cX10_set 104 = .ok (.iload 6, 2) := by decide +kernel
theorem dX10_set_106 : decode cX10_set 106 = .ok (.ireturn, 1) := by decide +kernel
theorem dX10_push_0 : decode cX10_push 0 = .ok (.aload_n 0, 1) := by decide +kernel
theorem dX10_push_1 : decode cX10_push 1 = .ok (.getfield 145, 3) := by decide +kernel
theorem dX10_push_4 : decode cX10_push 4 = .ok (.bipush 8, 2) := by decide +kernel
theorem dX10_push_6 : decode cX10_push 6 = .ok (.if_icmp .ne 5, 3) := by decide +kernel
theorem dX10_push_9 : decode cX10_push 9 = .ok (.iconst 0, 1) := by decide +kernel
theorem dX10_push_10 : decode cX10_push 10 = .ok (.ireturn, 1) := by decide +kernel
theorem dX10_push_11 : decode cX10_push 11 = .ok (.aload_n 0, 1) := by decide +kernel
theorem dX10_push_12 : decode cX10_push 12 = .ok (.getfield 45, 3) := by decide +kernel
theorem dX10_push_15 : decode cX10_push 15 = .ok (.bipush 8, 2) := by decide +kernel
theorem dX10_push_17 : decode cX10_push 17 = .ok (.aload_n 0, 1) := by decide +kernel
theorem dX10_push_18 : decode cX10_push 18 = .ok (.getfield 145, 3) := by decide +kernel
theorem dX10_push_21 : decode cX10_push 21 = .ok (.iadd, 1) := by decide +kernel
theorem dX10_push_22 : decode cX10_push 22 = .ok (.iload_n 1, 1) := by decide +kernel
theorem dX10_push_23 : decode cX10_push 23 = .ok (.iastore, 1) := by decide +kernel
theorem dX10_push_24 : decode cX10_push 24 = .ok (.aload_n 0, 1) := by decide +kernel
theorem dX10_push_25 : decode cX10_push 25 = .ok (.dup, 1) := by decide +kernel
theorem dX10_push_26 : decode cX10_push 26 = .ok (.getfield 145, 3) := by decide +kernel
theorem dX10_push_29 : decode cX10_push 29 = .ok (.iconst 1, 1) := by decide +kernel
theorem dX10_push_30 : decode cX10_push 30 = .ok (.iadd, 1) := by decide +kernel
theorem dX10_push_31 : decode cX10_push 31 = .ok (.putfield 145, 3) := by decide +kernel
theorem dX10_push_34 : decode cX10_push 34 = .ok (.iconst 1, 1) := by decide +kernel
theorem dX10_push_35 : decode cX10_push 35 = .ok (.ireturn, 1) := by decide +kernel
theorem dX10_pop_0 : decode cX10_pop 0 = .ok (.aload_n 0, 1) := by decide +kernel
theorem dX10_pop_1 : decode cX10_pop 1 = .ok (.getfield 145, 3) := by decide +kernel
theorem dX10_pop_4 : decode cX10_pop 4 = .ok (.ifCond .eq 22, 3) := by decide +kernel
theorem dX10_pop_7 : decode cX10_pop 7 = .ok (.aload_n 0, 1) := by decide +kernel
theorem dX10_pop_8 : decode cX10_pop 8 = .ok (.getfield 45, 3) := by decide +kernel
theorem dX10_pop_11 : decode cX10_pop 11 = .ok (.bipush 7, 2) := by decide +kernel
theorem dX10_pop_13 : decode cX10_pop 13 = .ok (.aload_n 0, 1) := by decide +kernel
theorem dX10_pop_14 : decode cX10_pop 14 = .ok (.getfield 145, 3) := by decide +kernel
theorem dX10_pop_17 : decode cX10_pop 17 = .ok (.iadd, 1) := by decide +kernel
theorem dX10_pop_18 : decode cX10_pop 18 = .ok (.iaload, 1) := by decide +kernel
theorem dX10_pop_19 : decode cX10_pop 19 = .ok (.iload_n 1, 1) := by decide +kernel
theorem dX10_pop_20 : decode cX10_pop 20 = .ok (.invokestatic 125, 3) := by decide +kernel
theorem dX10_pop_23 : decode cX10_pop 23 = .ok (.ifCond .ne 5, 3) := by decide +kernel
theorem dX10_pop_26 : decode cX10_pop 26 = .ok (.iconst 0, 1) := by decide +kernel
theorem dX10_pop_27 : decode cX10_pop 27 = .ok (.ireturn, 1) := by decide +kernel
theorem dX10_pop_28 : decode cX10_pop 28 = .ok (.aload_n 0, 1) := by decide +kernel
theorem dX10_pop_29 : decode cX10_pop 29 = .ok (.dup, 1) := by decide +kernel
theorem dX10_pop_30 : decode cX10_pop 30 = .ok (.getfield 145, 3) := by decide +kernel
theorem dX10_pop_33 : decode cX10_pop 33 = .ok (.iconst 1, 1) := by decide +kernel
theorem dX10_pop_34 : decode cX10_pop 34 = .ok (.isub, 1) := by decide +kernel
theorem dX10_pop_35 : decode cX10_pop 35 = .ok (.putfield 145, 3) := by decide +kernel
theorem dX10_pop_38 : decode cX10_pop 38 = .ok (.iconst 1, 1) := by decide +kernel
theorem dX10_pop_39 : decode cX10_pop 39 = .ok (.ireturn, 1) := by decide +kernel
theorem dX10_pushLong_0 : decode cX10_pushLong 0 = .ok (.aload_n 0, 1) := by decide +kernel
theorem dX10_pushLong_1 : decode cX10_pushLong 1 = .ok (.iconst 2, 1) := by decide +kernel
theorem dX10_pushLong_2 : decode cX10_pushLong 2 = .ok (.invokevirtual 148, 3) := by decide +kernel
theorem dX10_pushLong_5 : decode cX10_pushLong 5 = .ok (.ifCond .eq 15, 3) := by decide +kernel
theorem dX10_pushLong_8 : decode cX10_pushLong 8 = .ok (.aload_n 0, 1) := by decide +kernel
theorem dX10_pushLong_9 : decode cX10_pushLong 9 = .ok (.iconst 3, 1) := by decide +kernel
theorem dX10_pushLong_10 : decode cX10_pushLong 10 = .ok (.invokevirtual 148, 3) := by decide +kernel
theorem dX10_pushLong_13 : decode cX10_pushLong 13 = .ok (.ifCond .eq 7, 3) := by decide +kernel
theorem dX10_pushLong_16 : decode cX10_pushLong 16 = .ok (.iconst 1, 1) := by decide +kernel
theorem dX10_pushLong_17 : decode cX10_pushLong 17 = .ok (.goto 4, 3) := by decide +kernel
theorem dX10_pushLong_20 : decode cX10_pushLong 20 = .ok (.iconst 0, 1) := by decide +kernel
theorem dX10_pushLong_21 : decode cX10_pushLong 21 = .ok (.ireturn, 1) := by decide +kernel
theorem dX10_popLong_0 : decode cX10_popLong 0 = .ok (.aload_n 0, 1) := by decide +kernel
theorem dX10_popLong_1 : decode cX10_popLong 1 = .ok (.getfield 145, 3) := by decide +kernel
theorem dX10_popLong_4 : decode cX10_popLong 4 = .ok (.iconst 2, 1) := by decide +kernel
theorem dX10_popLong_5 : decode cX10_popLong 5 = .ok (.if_icmp .lt 35, 3) := by decide +kernel
theorem dX10_popLong_8 : decode cX10_popLong 8 = .ok (.aload_n 0, 1) := by decide +kernel
theorem dX10_popLong_9 : decode cX10_popLong 9 = .ok (.getfield 45, 3) := by decide +kernel
theorem dX10_popLong_12 : decode cX10_popLong 12 = .ok (.bipush 7, 2) := by decide +kernel
theorem dX10_popLong_14 : decode cX10_popLong 14 = .ok (.aload_n 0, 1) := by decide +kernel
theorem dX10_popLong_15 : decode cX10_popLong 15 = .ok (.getfield 145, 3) := by decide +kernel
theorem dX10_popLong_18 : decode cX10_popLong 18 = .ok (.iadd, 1) := by decide +kernel
theorem dX10_popLong_19 : decode cX10_popLong 19 = .ok (.iaload, 1) := by decide +kernel
theorem dX10_popLong_20 : decode cX10_popLong 20 = .ok (.iconst 3, 1) := by decide +kernel
theorem dX10_popLong_21 : decode cX10_popLong 21 = .ok (.if_icmp .ne 19, 3) := by decide +kernel
theorem dX10_popLong_24 : decode cX10_popLong 24 = .ok (.aload_n 0, 1) := by decide +kernel
theorem dX10_popLong_25 : decode cX10_popLong 25 = .ok (.getfield 45, 3) := by decide +kernel
theorem dX10_popLong_28 : decode cX10_popLong 28 = .ok (.bipush 6, 2) := by decide +kernel
theorem dX10_popLong_30 : decode cX10_popLong 30 = .ok (.aload_n 0, 1) := by decide +kernel
theorem dX10_popLong_31 : decode cX10_popLong 31 = .ok (.getfield 145, 3) := by decide +kernel
theorem dX10_popLong_34 : decode cX10_popLong 34 = .ok (.iadd, 1) := by decide +kernel
theorem dX10_popLong_35 : decode cX10_popLong 35 = .ok (.iaload, 1) := by decide +kernel
theorem dX10_popLong_36 : decode cX10_popLong 36 = .ok (.iconst 2, 1) := by decide +kernel
theorem dX10_popLong_37 : decode cX10_popLong 37 = .ok (.if_icmp .eq 5, 3) := by decide +kernel
theorem dX10_popLong_40 : decode cX10_popLong 40 = .ok (.iconst 0, 1) := by decide +kernel
theorem dX10_popLong_41 : decode cX10_popLong 41 = .ok (.ireturn, 1) := by decide +kernel
theorem dX10_popLong_42 : decode cX10_popLong 42 = .ok (.aload_n 0, 1) := by decide +kernel
theorem dX10_popLong_43 : decode cX10_popLong 43 = .ok (.dup, 1) := by decide +kernel
theorem dX10_popLong_44 : decode cX10_popLong 44 = .ok (.getfield 145, 3) := by decide +kernel
theorem dX10_popLong_47 : decode cX10_popLong 47 = .ok (.iconst 2, 1) := by decide +kernel
theorem dX10_popLong_48 : decode cX10_popLong 48 = .ok (.isub, 1) := by decide +kernel
theorem dX10_popLong_49 : decode cX10_popLong 49 = .ok (.putfield 145, 3) := by decide +kernel
theorem dX10_popLong_52 : decode cX10_popLong 52 = .ok (.iconst 1, 1) := by decide +kernel
theorem dX10_popLong_53 : decode cX10_popLong 53 = .ok (.ireturn, 1) := by decide +kernel
theorem dX10_isOnePlace_0 : decode cX10_isOnePlace 0 = .ok (.iload_n 0, 1) := by decide +kernel
theorem dX10_isOnePlace_1 : decode cX10_isOnePlace 1 = .ok (.iconst 1, 1) := by decide +kernel
theorem dX10_isOnePlace_2 : decode cX10_isOnePlace 2 = .ok (.if_icmp .eq 8, 3) := by decide +kernel
theorem dX10_isOnePlace_5 : decode cX10_isOnePlace 5 = .ok (.iload_n 0, 1) := by decide +kernel
theorem dX10_isOnePlace_6 : decode cX10_isOnePlace 6 = .ok (.iconst 4, 1) := by decide +kernel
theorem dX10_isOnePlace_7 : decode cX10_isOnePlace 7 = .ok (.if_icmp .lt 7, 3) := by decide +kernel
theorem dX10_isOnePlace_10 : decode cX10_isOnePlace 10 = .ok (.iconst 1, 1) := by decide +kernel
theorem dX10_isOnePlace_11 : decode cX10_isOnePlace 11 = .ok (.goto 4, 3) := by decide +kernel
theorem dX10_isOnePlace_14 : decode cX10_isOnePlace 14 = .ok (.iconst 0, 1) := by decide +kernel
theorem dX10_isOnePlace_15 : decode cX10_isOnePlace 15 = .ok (.ireturn, 1) := by decide +kernel
theorem dX10_isOneOnTop_0 : decode cX10_isOneOnTop 0 = .ok (.aload_n 0, 1) := by decide +kernel
theorem dX10_isOneOnTop_1 : decode cX10_isOneOnTop 1 = .ok (.getfield 145, 3) := by decide +kernel
theorem dX10_isOneOnTop_4 : decode cX10_isOneOnTop 4 = .ok (.iload_n 1, 1) := by decide +kernel
theorem dX10_isOneOnTop_5 : decode cX10_isOneOnTop 5 = .ok (.if_icmp .le 27, 3) := by decide +kernel
theorem dX10_isOneOnTop_8 : decode cX10_isOneOnTop 8 = .ok (.aload_n 0, 1) := by decide +kernel
theorem dX10_isOneOnTop_9 : decode cX10_isOneOnTop 9 = .ok (.getfield 45, 3) := by decide +kernel
theorem dX10_isOneOnTop_12 : decode cX10_isOneOnTop 12 = .ok (.bipush 7, 2) := by decide +kernel
theorem dX10_isOneOnTop_14 : decode cX10_isOneOnTop 14 = .ok (.aload_n 0, 1) := by decide +kernel
theorem dX10_isOneOnTop_15 : decode cX10_isOneOnTop 15 = .ok (.getfield 145, 3) := by decide +kernel
theorem dX10_isOneOnTop_18 : decode cX10_isOneOnTop 18 = .ok (.iadd, 1) := by decide +kernel
theorem dX10_isOneOnTop_19 : decode cX10_isOneOnTop 19 = .ok (.iload_n 1, 1) := by decide +kernel
theorem dX10_isOneOnTop_20 : decode cX10_isOneOnTop 20 = .ok (.isub, 1) := by decide +kernel
theorem dX10_isOneOnTop_21 : decode cX10_isOneOnTop 21 = .ok (.iaload, 1) := by decide +kernel
theorem dX10_isOneOnTop_22 : decode cX10_isOneOnTop 22 = .ok (.invokestatic 151, 3) := by decide +kernel
theorem dX10_isOneOnTop_25 : decode cX10_isOneOnTop 25 = .ok (.ifCond .eq 7, 3) := by decide +kernel
theorem dX10_isOneOnTop_28 : decode cX10_isOneOnTop 28 = .ok (.iconst 1, 1) := by decide +kernel
theorem dX10_isOneOnTop_29 : decode cX10_isOneOnTop 29 = .ok (.goto 4, 3) := by decide +kernel
theorem dX10_isOneOnTop_32 : decode cX10_isOneOnTop 32 = .ok (.iconst 0, 1) := by decide +kernel
theorem dX10_isOneOnTop_33 : decode cX10_isOneOnTop 33 = .ok (.ireturn, 1) := by decide +kernel
theorem dX10_local_0 : decode cX10_local 0 = .ok (.aload_n 0, 1) := by decide +kernel
theorem dX10_local_1 : decode cX10_local 1 = .ok (.getfield 45, 3) := by decide +kernel
theorem dX10_local_4 : decode cX10_local 4 = .ok (.iload_n 1, 1) := by decide +kernel
theorem dX10_local_5 : decode cX10_local 5 = .ok (.iaload, 1) := by decide +kernel
theorem dX10_local_6 : decode cX10_local 6 = .ok (.iconst 3, 1) := by decide +kernel
theorem dX10_local_7 : decode cX10_local 7 = .ok (.if_icmp .ne 28, 3) := by decide +kernel
theorem dX10_local_10 : decode cX10_local 10 = .ok (.iload_n 1, 1) := by decide +kernel
theorem dX10_local_11 : decode cX10_local 11 = .ok (.ifCond .le 24, 3) := by decide +kernel
theorem dX10_local_14 : decode cX10_local 14 = .ok (.aload_n 0, 1) := by decide +kernel
theorem dX10_local_15 : decode cX10_local 15 = .ok (.getfield 45, 3) := by decide +kernel
theorem dX10_local_18 : decode cX10_local 18 = .ok (.iload_n 1, 1) := by decide +kernel
theorem dX10_local_19 : decode cX10_local 19 = .ok (.iconst 1, 1) := by decide +kernel
theorem dX10_local_20 : decode cX10_local 20 = .ok (.isub, 1) := by decide +kernel
theorem dX10_local_21 : decode cX10_local 21 = .ok (.iaload, 1) := by decide +kernel
theorem dX10_local_22 : decode cX10_local 22 = .ok (.iconst 2, 1) := by decide +kernel
theorem dX10_local_23 : decode cX10_local 23 = .ok (.if_icmp .ne 12, 3) := by decide +kernel
theorem dX10_local_26 : decode cX10_local 26 = .ok (.aload_n 0, 1) := by decide +kernel
theorem dX10_local_27 : decode cX10_local 27 = .ok (.getfield 45, 3) := by decide +kernel
theorem dX10_local_30 : decode cX10_local 30 = .ok (.iload_n 1, 1) := by decide +kernel
theorem dX10_local_31 : decode cX10_local 31 = .ok (.iconst 1, 1) := by decide +kernel
theorem dX10_local_32 : decode cX10_local 32 = .ok (.isub, 1) := by decide +kernel
theorem dX10_local_33 : decode cX10_local 33 = .ok (.iconst 0, 1) := by decide +kernel
theorem dX10_local_34 : decode cX10_local 34 = .ok (.iastore, 1) := by decide +kernel
theorem dX10_local_35 : decode cX10_local 35 = .ok (.aload_n 0, 1) := by decide +kernel
theorem dX10_local_36 : decode cX10_local 36 = .ok (.getfield 45, 3) := by decide +kernel
theorem dX10_local_39 : decode cX10_local 39 = .ok (.iload_n 1, 1) := by decide +kernel
theorem dX10_local_40 : decode cX10_local 40 = .ok (.iaload, 1) := by decide +kernel
theorem dX10_local_41 : decode cX10_local 41 = .ok (.iconst 2, 1) := by decide +kernel
theorem dX10_local_42 : decode cX10_local 42 = .ok (.if_icmp .ne 30, 3) := by decide +kernel
theorem dX10_local_45 : decode cX10_local 45 = .ok (.iload_n 1, 1) := by decide +kernel
theorem dX10_local_46 : decode cX10_local 46 = .ok (.bipush 7, 2) := by decide +kernel
theorem dX10_local_48 : decode cX10_local 48 = .ok (.if_icmp .ge 24, 3) := by decide +kernel
theorem dX10_local_51 : decode cX10_local 51 = .ok (.aload_n 0, 1) := by decide +kernel
theorem dX10_local_52 : decode cX10_local 52 = .ok (.getfield 45, 3) := by decide +kernel
theorem dX10_local_55 : decode cX10_local 55 = .ok (.iload_n 1, 1) := by decide +kernel
theorem dX10_local_56 : decode cX10_local 56 = .ok (.iconst 1, 1) := by decide +kernel
theorem dX10_local_57 : decode cX10_local 57 = .ok (.iadd, 1) := by decide +kernel
theorem dX10_local_58 : decode cX10_local 58 = .ok (.iaload, 1) := by decide +kernel
theorem dX10_local_59 : decode cX10_local 59 = .ok (.iconst 3, 1) := by decide +kernel
theorem dX10_local_60 : decode cX10_local 60 = .ok (.if_icmp .ne 12, 3) := by decide +kernel
theorem dX10_local_63 : decode cX10_local 63 = .ok (.aload_n 0, 1) := by decide +kernel
theorem dX10_local_64 : decode cX10_local 64 = .ok (.getfield 45, 3) := by decide +kernel
theorem dX10_local_67 : decode cX10_local 67 = .ok (.iload_n 1, 1) := by decide +kernel
theorem dX10_local_68 : decode cX10_local 68 = .ok (.iconst 1, 1) := by decide +kernel
theorem dX10_local_69 : decode cX10_local 69 = .ok (.iadd, 1) := by decide +kernel
theorem dX10_local_70 : decode cX10_local 70 = .ok (.iconst 0, 1) := by decide +kernel
theorem dX10_local_71 : decode cX10_local 71 = .ok (.iastore, 1) := by decide +kernel
theorem dX10_local_72 : decode cX10_local 72 = .ok (.aload_n 0, 1) := by decide +kernel
theorem dX10_local_73 : decode cX10_local 73 = .ok (.getfield 45, 3) := by decide +kernel
theorem dX10_local_76 : decode cX10_local 76 = .ok (.iload_n 1, 1) := by decide +kernel
theorem dX10_local_77 : decode cX10_local 77 = .ok (.iload_n 2, 1) := by decide +kernel
theorem dX10_local_78 : decode cX10_local 78 = .ok (.iastore, 1) := by decide +kernel
theorem dX10_local_79 : decode cX10_local 79 = .ok (.return_, 1) := by decide +kernel
theorem dX10_does_0 : decode cX10_does 0 = .ok (.aload_n 0, 1) := by decide +kernel
theorem dX10_does_1 : decode cX10_does 1 = .ok (.getfield 16, 3) := by decide +kernel
theorem dX10_does_4 : decode cX10_does 4 = .ok (.bipush 40, 2) := by decide +kernel
end
section
theorem dX10_does_6 : decode cX10_does 6 = .ok (.iload_n 1, 1) := by decide +kernel
theorem dX10_does_7 : decode cX10_does 7 = .ok (.imul, 1) := by decide +kernel
theorem dX10_does_8 : decode cX10_does 8 = .ok (.iload_n 2, 1) := by decide +kernel
theorem dX10_does_9 : decode cX10_does 9 = .ok (.iadd, 1) := by decide +kernel
theorem dX10_does_10 : decode cX10_does 10 = .ok (.iaload, 1) := by decide +kernel
theorem dX10_does_11 : decode cX10_does 11 = .ok (.istore_n 3, 1) := by decide +kernel
theorem dX10_does_12 : decode cX10_does 12 = .ok (.aload_n 0, 1) := by decide +kernel
theorem dX10_does_13 : decode cX10_does 13 = .ok (.getfield 19, 3) := by decide +kernel
theorem dX10_does_16 : decode cX10_does 16 = .ok (.bipush 40, 2) := by decide +kernel
theorem dX10_does_18 : decode cX10_does 18 = .ok (.iload_n 1, 1) := by decide +kernel
theorem dX10_does_19 : decode cX10_does 19 = .ok (.imul, 1) := by decide +kernel
theorem dX10_does_20 : decode cX10_does 20 = .ok (.iload_n 2, 1) := by decide +kernel
theorem dX10_does_21 : decode cX10_does 21 = .ok (.iadd, 1) := by decide +kernel
theorem dX10_does_22 : decode cX10_does 22 = .ok (.laload, 1) := by decide +kernel
theorem dX10_does_23 : decode cX10_does 23 = .ok (.lstore 4, 2) := by decide +kernel
theorem dX10_does_25 : decode cX10_does 25 = .ok (.iload_n 3, 1) := by decide +kernel
theorem dX10_does_26 : decode cX10_does 26 = .ok (.tableswitch 524 0 15 #[78, 84, 89, 95, 142, 195, 246, 296, 338, 377, 398, 419, 447, 455, 463, 485], 78) := by decide +kernel
theorem dX10_does_104 : decode cX10_does 104 = .ok (.aload_n 0, 1) := by decide +kernel
theorem dX10_does_105 : decode cX10_does 105 = .ok (.iconst 1, 1) := by decide +kernel
theorem dX10_does_106 : decode cX10_does 106 = .ok (.invokevirtual 148, 3) := by decide +kernel
theorem dX10_does_109 : decode cX10_does 109 = .ok (.ireturn, 1) := by decide +kernel
theorem dX10_does_110 : decode cX10_does 110 = .ok (.aload_n 0, 1) := by decide +kernel
theorem dX10_does_111 : decode cX10_does 111 = .ok (.invokevirtual 154, 3) := by decide +kernel
theorem dX10_does_114 : decode cX10_does 114 = .ok (.ireturn, 1) := by decide +kernel
theorem dX10_does_115 : decode cX10_does 115 = .ok (.aload_n 0, 1) := by decide +kernel
theorem dX10_does_116 : decode cX10_does 116 = .ok (.iconst 4, 1) := by decide +kernel
theorem dX10_does_117 : decode cX10_does 117 = .ok (.invokevirtual 148, 3) := by decide +kernel
theorem dX10_does_120 : decode cX10_does 120 = .ok (.ireturn, 1) := by decide +kernel
theorem dX10_does_121 : decode cX10_does 121 = .ok (.lload 4, 2) := by decide +kernel
theorem dX10_does_123 : decode cX10_does 123 = .ok (.lconst 0, 1) := by decide +kernel
theorem dX10_does_124 : decode cX10_does 124 = .ok (.ldc2_w 139, 3) := by decide +kernel
theorem dX10_does_127 : decode cX10_does 127 = .ok (.invokestatic 79, 3) := by decide +kernel
theorem dX10_does_130 : decode cX10_does 130 = .ok (.ifCond .eq 36, 3) := by decide +kernel
theorem dX10_does_133 : decode cX10_does 133 = .ok (.aload_n 0, 1) := by decide +kernel
theorem dX10_does_134 : decode cX10_does 134 = .ok (.getfield 45, 3) := by decide +kernel
theorem dX10_does_137 : decode cX10_does 137 = .ok (.lload 4, 2) := by decide +kernel
theorem dX10_does_139 : decode cX10_does 139 = .ok (.l2i, 1) := by decide +kernel
theorem dX10_does_140 : decode cX10_does 140 = .ok (.iaload, 1) := by decide +kernel
theorem dX10_does_141 : decode cX10_does 141 = .ok (.invokestatic 151, 3) := by decide +kernel
theorem dX10_does_144 : decode cX10_does 144 = .ok (.ifCond .eq 22, 3) := by decide +kernel
theorem dX10_does_147 : decode cX10_does 147 = .ok (.aload_n 0, 1) := by decide +kernel
theorem dX10_does_148 : decode cX10_does 148 = .ok (.aload_n 0, 1) := by decide +kernel
theorem dX10_does_149 : decode cX10_does 149 = .ok (.getfield 45, 3) := by decide +kernel
theorem dX10_does_152 : decode cX10_does 152 = .ok (.lload 4, 2) := by decide +kernel
theorem dX10_does_154 : decode cX10_does 154 = .ok (.l2i, 1) := by decide +kernel
theorem dX10_does_155 : decode cX10_does 155 = .ok (.iaload, 1) := by decide +kernel
theorem dX10_does_156 : decode cX10_does 156 = .ok (.invokevirtual 148, 3) := by decide +kernel
theorem dX10_does_159 : decode cX10_does 159 = .ok (.ifCond .eq 7, 3) := by decide +kernel
theorem dX10_does_162 : decode cX10_does 162 = .ok (.iconst 1, 1) := by decide +kernel
theorem dX10_does_163 : decode cX10_does 163 = .ok (.goto 4, 3) := by decide +kernel
theorem dX10_does_166 : decode cX10_does 166 = .ok (.iconst 0, 1) := by decide +kernel
theorem dX10_does_167 : decode cX10_does 167 = .ok (.ireturn, 1) := by decide +kernel
theorem dX10_does_168 : decode cX10_does 168 = .ok (.lload 4, 2) := by decide +kernel
theorem dX10_does_170 : decode cX10_does 170 = .ok (.lconst 0, 1) := by decide +kernel
theorem dX10_does_171 : decode cX10_does 171 = .ok (.ldc2_w 139, 3) := by decide +kernel
theorem dX10_does_174 : decode cX10_does 174 = .ok (.invokestatic 79, 3) := by decide +kernel
theorem dX10_does_177 : decode cX10_does 177 = .ok (.ifCond .eq 11, 3) := by decide +kernel
theorem dX10_does_180 : decode cX10_does 180 = .ok (.aload_n 0, 1) := by decide +kernel
theorem dX10_does_181 : decode cX10_does 181 = .ok (.iconst 0, 1) := by decide +kernel
theorem dX10_does_182 : decode cX10_does 182 = .ok (.invokevirtual 158, 3) := by decide +kernel
theorem dX10_does_185 : decode cX10_does 185 = .ok (.ifCond .ne 5, 3) := by decide +kernel
theorem dX10_does_188 : decode cX10_does 188 = .ok (.iconst 0, 1) := by decide +kernel
theorem dX10_does_189 : decode cX10_does 189 = .ok (.ireturn, 1) := by decide +kernel
theorem dX10_does_190 : decode cX10_does 190 = .ok (.aload_n 0, 1) := by decide +kernel
theorem dX10_does_191 : decode cX10_does 191 = .ok (.dup, 1) := by decide +kernel
theorem dX10_does_192 : decode cX10_does 192 = .ok (.getfield 145, 3) := by decide +kernel
theorem dX10_does_195 : decode cX10_does 195 = .ok (.iconst 1, 1) := by decide +kernel
theorem dX10_does_196 : decode cX10_does 196 = .ok (.isub, 1) := by decide +kernel
theorem dX10_does_197 : decode cX10_does 197 = .ok (.putfield 145, 3) := by decide +kernel
theorem dX10_does_200 : decode cX10_does 200 = .ok (.aload_n 0, 1) := by decide +kernel
theorem dX10_does_201 : decode cX10_does 201 = .ok (.lload 4, 2) := by decide +kernel
theorem dX10_does_203 : decode cX10_does 203 = .ok (.l2i, 1) := by decide +kernel
theorem dX10_does_204 : decode cX10_does 204 = .ok (.aload_n 0, 1) := by decide +kernel
theorem dX10_does_205 : decode cX10_does 205 = .ok (.getfield 45, 3) := by decide +kernel
theorem dX10_does_208 : decode cX10_does 208 = .ok (.bipush 8, 2) := by decide +kernel
theorem dX10_does_210 : decode cX10_does 210 = .ok (.aload_n 0, 1) := by decide +kernel
theorem dX10_does_211 : decode cX10_does 211 = .ok (.getfield 145, 3) := by decide +kernel
theorem dX10_does_214 : decode cX10_does 214 = .ok (.iadd, 1) := by decide +kernel
theorem dX10_does_215 : decode cX10_does 215 = .ok (.iaload, 1) := by decide +kernel
theorem dX10_does_216 : decode cX10_does 216 = .ok (.invokevirtual 161, 3) := by decide +kernel
theorem dX10_does_219 : decode cX10_does 219 = .ok (.iconst 1, 1) := by decide +kernel
theorem dX10_does_220 : decode cX10_does 220 = .ok (.ireturn, 1) := by decide +kernel
theorem dX10_does_221 : decode cX10_does 221 = .ok (.lload 4, 2) := by decide +kernel
theorem dX10_does_223 : decode cX10_does 223 = .ok (.lconst 0, 1) := by decide +kernel
theorem dX10_does_224 : decode cX10_does 224 = .ok (.ldc2_w 165, 3) := by decide +kernel
theorem dX10_does_227 : decode cX10_does 227 = .ok (.invokestatic 79, 3) := by decide +kernel
theorem dX10_does_230 : decode cX10_does 230 = .ok (.ifCond .eq 40, 3) := by decide +kernel
theorem dX10_does_233 : decode cX10_does 233 = .ok (.aload_n 0, 1) := by decide +kernel
theorem dX10_does_234 : decode cX10_does 234 = .ok (.getfield 45, 3) := by decide +kernel
theorem dX10_does_237 : decode cX10_does 237 = .ok (.lload 4, 2) := by decide +kernel
theorem dX10_does_239 : decode cX10_does 239 = .ok (.l2i, 1) := by decide +kernel
theorem dX10_does_240 : decode cX10_does 240 = .ok (.iaload, 1) := by decide +kernel
theorem dX10_does_241 : decode cX10_does 241 = .ok (.iconst 2, 1) := by decide +kernel
theorem dX10_does_242 : decode cX10_does 242 = .ok (.if_icmp .ne 28, 3) := by decide +kernel
theorem dX10_does_245 : decode cX10_does 245 = .ok (.aload_n 0, 1) := by decide +kernel
theorem dX10_does_246 : decode cX10_does 246 = .ok (.getfield 45, 3) := by decide +kernel
theorem dX10_does_249 : decode cX10_does 249 = .ok (.lload 4, 2) := by decide +kernel
theorem dX10_does_251 : decode cX10_does 251 = .ok (.l2i, 1) := by decide +kernel
theorem dX10_does_252 : decode cX10_does 252 = .ok (.iconst 1, 1) := by decide +kernel
theorem dX10_does_253 : decode cX10_does 253 = .ok (.iadd, 1) := by decide +kernel
theorem dX10_does_254 : decode cX10_does 254 = .ok (.iaload, 1) := by decide +kernel
theorem dX10_does_255 : decode cX10_does 255 = .ok (.iconst 3, 1) := by decide +kernel
theorem dX10_does_256 : decode cX10_does 256 = .ok (.if_icmp .ne 14, 3) := by decide +kernel
theorem dX10_does_259 : decode cX10_does 259 = .ok (.aload_n 0, 1) := by decide +kernel
theorem dX10_does_260 : decode cX10_does 260 = .ok (.invokevirtual 154, 3) := by decide +kernel
theorem dX10_does_263 : decode cX10_does 263 = .ok (.ifCond .eq 7, 3) := by decide +kernel
theorem dX10_does_266 : decode cX10_does 266 = .ok (.iconst 1, 1) := by decide +kernel
theorem dX10_does_267 : decode cX10_does 267 = .ok (.goto 4, 3) := by decide +kernel
theorem dX10_does_270 : decode cX10_does 270 = .ok (.iconst 0, 1) := by decide +kernel
theorem dX10_does_271 : decode cX10_does 271 = .ok (.ireturn, 1) := by decide +kernel
theorem dX10_does_272 : decode cX10_does 272 = .ok (.lload 4, 2) := by decide +kernel
theorem dX10_does_274 : decode cX10_does 274 = .ok (.lconst 0, 1) := by decide +kernel
theorem dX10_does_275 : decode cX10_does 275 = .ok (.ldc2_w 165, 3) := by decide +kernel
theorem dX10_does_278 : decode cX10_does 278 = .ok (.invokestatic 79, 3) := by decide +kernel
theorem dX10_does_281 : decode cX10_does 281 = .ok (.ifCond .eq 10, 3) := by decide +kernel
theorem dX10_does_284 : decode cX10_does 284 = .ok (.aload_n 0, 1) := by decide +kernel
theorem dX10_does_285 : decode cX10_does 285 = .ok (.invokevirtual 167, 3) := by decide +kernel
theorem dX10_does_288 : decode cX10_does 288 = .ok (.ifCond .ne 5, 3) := by decide +kernel
theorem dX10_does_291 : decode cX10_does 291 = .ok (.iconst 0, 1) := by decide +kernel
theorem dX10_does_292 : decode cX10_does 292 = .ok (.ireturn, 1) := by decide +kernel
theorem dX10_does_293 : decode cX10_does 293 = .ok (.aload_n 0, 1) := by decide +kernel
theorem dX10_does_294 : decode cX10_does 294 = .ok (.lload 4, 2) := by decide +kernel
theorem dX10_does_296 : decode cX10_does 296 = .ok (.l2i, 1) := by decide +kernel
theorem dX10_does_297 : decode cX10_does 297 = .ok (.iconst 0, 1) := by decide +kernel
theorem dX10_does_298 : decode cX10_does 298 = .ok (.invokevirtual 161, 3) := by decide +kernel
theorem dX10_does_301 : decode cX10_does 301 = .ok (.aload_n 0, 1) := by decide +kernel
theorem dX10_does_302 : decode cX10_does 302 = .ok (.lload 4, 2) := by decide +kernel
theorem dX10_does_304 : decode cX10_does 304 = .ok (.l2i, 1) := by decide +kernel
theorem dX10_does_305 : decode cX10_does 305 = .ok (.iconst 1, 1) := by decide +kernel
theorem dX10_does_306 : decode cX10_does 306 = .ok (.iadd, 1) := by decide +kernel
theorem dX10_does_307 : decode cX10_does 307 = .ok (.iconst 3, 1) := by decide +kernel
theorem dX10_does_308 : decode cX10_does 308 = .ok (.invokevirtual 161, 3) := by decide +kernel
theorem dX10_does_311 : decode cX10_does 311 = .ok (.aload_n 0, 1) := by decide +kernel
theorem dX10_does_312 : decode cX10_does 312 = .ok (.getfield 45, 3) := by decide +kernel
theorem dX10_does_315 : decode cX10_does 315 = .ok (.lload 4, 2) := by decide +kernel
theorem dX10_does_317 : decode cX10_does 317 = .ok (.l2i, 1) := by decide +kernel
theorem dX10_does_318 : decode cX10_does 318 = .ok (.iconst 2, 1) := by decide +kernel
theorem dX10_does_319 : decode cX10_does 319 = .ok (.iastore, 1) := by decide +kernel
theorem dX10_does_320 : decode cX10_does 320 = .ok (.iconst 1, 1) := by decide +kernel
theorem dX10_does_321 : decode cX10_does 321 = .ok (.ireturn, 1) := by decide +kernel
theorem dX10_does_322 : decode cX10_does 322 = .ok (.lload 4, 2) := by decide +kernel
theorem dX10_does_324 : decode cX10_does 324 = .ok (.lconst 0, 1) := by decide +kernel
theorem dX10_does_325 : decode cX10_does 325 = .ok (.ldc2_w 128, 3) := by decide +kernel
theorem dX10_does_328 : decode cX10_does 328 = .ok (.invokestatic 79, 3) := by decide +kernel
theorem dX10_does_331 : decode cX10_does 331 = .ok (.ifCond .eq 31, 3) := by decide +kernel
theorem dX10_does_334 : decode cX10_does 334 = .ok (.aload_n 0, 1) := by decide +kernel
theorem dX10_does_335 : decode cX10_does 335 = .ok (.iconst 1, 1) := by decide +kernel
theorem dX10_does_336 : decode cX10_does 336 = .ok (.invokevirtual 170, 3) := by decide +kernel
theorem dX10_does_339 : decode cX10_does 339 = .ok (.ifCond .eq 23, 3) := by decide +kernel
theorem dX10_does_342 : decode cX10_does 342 = .ok (.aload_n 0, 1) := by decide +kernel
theorem dX10_does_343 : decode cX10_does 343 = .ok (.iconst 1, 1) := by decide +kernel
theorem dX10_does_344 : decode cX10_does 344 = .ok (.invokevirtual 170, 3) := by decide +kernel
theorem dX10_does_347 : decode cX10_does 347 = .ok (.ifCond .eq 15, 3) := by decide +kernel
theorem dX10_does_350 : decode cX10_does 350 = .ok (.aload_n 0, 1) := by decide +kernel
theorem dX10_does_351 : decode cX10_does 351 = .ok (.iconst 1, 1) := by decide +kernel
theorem dX10_does_352 : decode cX10_does 352 = .ok (.invokevirtual 148, 3) := by decide +kernel
theorem dX10_does_355 : decode cX10_does 355 = .ok (.ifCond .eq 7, 3) := by decide +kernel
theorem dX10_does_358 : decode cX10_does 358 = .ok (.iconst 1, 1) := by decide +kernel
theorem dX10_does_359 : decode cX10_does 359 = .ok (.goto 4, 3) := by decide +kernel
theorem dX10_does_362 : decode cX10_does 362 = .ok (.iconst 0, 1) := by decide +kernel
theorem dX10_does_363 : decode cX10_does 363 = .ok (.ireturn, 1) := by decide +kernel
theorem dX10_does_364 : decode cX10_does 364 = .ok (.lload 4, 2) := by decide +kernel
theorem dX10_does_366 : decode cX10_does 366 = .ok (.lconst 0, 1) := by decide +kernel
theorem dX10_does_367 : decode cX10_does 367 = .ok (.ldc2_w 128, 3) := by decide +kernel
theorem dX10_does_370 : decode cX10_does 370 = .ok (.invokestatic 79, 3) := by decide +kernel
theorem dX10_does_373 : decode cX10_does 373 = .ok (.ifCond .eq 28, 3) := by decide +kernel
theorem dX10_does_376 : decode cX10_does 376 = .ok (.aload_n 0, 1) := by decide +kernel
theorem dX10_does_377 : decode cX10_does 377 = .ok (.invokevirtual 167, 3) := by decide +kernel
theorem dX10_does_380 : decode cX10_does 380 = .ok (.ifCond .eq 21, 3) := by decide +kernel
theorem dX10_does_383 : decode cX10_does 383 = .ok (.aload_n 0, 1) := by decide +kernel
theorem dX10_does_384 : decode cX10_does 384 = .ok (.invokevirtual 167, 3) := by decide +kernel
theorem dX10_does_387 : decode cX10_does 387 = .ok (.ifCond .eq 14, 3) := by decide +kernel
theorem dX10_does_390 : decode cX10_does 390 = .ok (.aload_n 0, 1) := by decide +kernel
theorem dX10_does_391 : decode cX10_does 391 = .ok (.invokevirtual 154, 3) := by decide +kernel
theorem dX10_does_394 : decode cX10_does 394 = .ok (.ifCond .eq 7, 3) := by decide +kernel
theorem dX10_does_397 : decode cX10_does 397 = .ok (.iconst 1, 1) := by decide +kernel
theorem dX10_does_398 : decode cX10_does 398 = .ok (.goto 4, 3) := by decide +kernel
theorem dX10_does_401 : decode cX10_does 401 = .ok (.iconst 0, 1) := by decide +kernel
theorem dX10_does_402 : decode cX10_does 402 = .ok (.ireturn, 1) := by decide +kernel
theorem dX10_does_403 : decode cX10_does 403 = .ok (.aload_n 0, 1) := by decide +kernel
theorem dX10_does_404 : decode cX10_does 404 = .ok (.iconst 1, 1) := by decide +kernel
theorem dX10_does_405 : decode cX10_does 405 = .ok (.invokevirtual 170, 3) := by decide +kernel
theorem dX10_does_408 : decode cX10_does 408 = .ok (.ifCond .eq 14, 3) := by decide +kernel
theorem dX10_does_411 : decode cX10_does 411 = .ok (.aload_n 0, 1) := by decide +kernel
theorem dX10_does_412 : decode cX10_does 412 = .ok (.invokevirtual 154, 3) := by decide +kernel
theorem dX10_does_415 : decode cX10_does 415 = .ok (.ifCond .eq 7, 3) := by decide +kernel
theorem dX10_does_418 : decode cX10_does 418 = .ok (.iconst 1, 1) := by decide +kernel
theorem dX10_does_419 : decode cX10_does 419 = .ok (.goto 4, 3) := by decide +kernel
theorem dX10_does_422 : decode cX10_does 422 = .ok (.iconst 0, 1) := by decide +kernel
theorem dX10_does_423 : decode cX10_does 423 = .ok (.ireturn, 1) := by decide +kernel
theorem dX10_does_424 : decode cX10_does 424 = .ok (.aload_n 0, 1) := by decide +kernel
theorem dX10_does_425 : decode cX10_does 425 = .ok (.invokevirtual 167, 3) := by decide +kernel
theorem dX10_does_428 : decode cX10_does 428 = .ok (.ifCond .eq 15, 3) := by decide +kernel
theorem dX10_does_431 : decode cX10_does 431 = .ok (.aload_n 0, 1) := by decide +kernel
theorem dX10_does_432 : decode cX10_does 432 = .ok (.iconst 1, 1) := by decide +kernel
theorem dX10_does_433 : decode cX10_does 433 = .ok (.invokevirtual 148, 3) := by decide +kernel
theorem dX10_does_436 : decode cX10_does 436 = .ok (.ifCond .eq 7, 3) := by decide +kernel
theorem dX10_does_439 : decode cX10_does 439 = .ok (.iconst 1, 1) := by decide +kernel
theorem dX10_does_440 : decode cX10_does 440 = .ok (.goto 4, 3) := by decide +kernel
theorem dX10_does_443 : decode cX10_does 443 = .ok (.iconst 0, 1) := by decide +kernel
theorem dX10_does_444 : decode cX10_does 444 = .ok (.ireturn, 1) := by decide +kernel
theorem dX10_does_445 : decode cX10_does 445 = .ok (.aload_n 0, 1) := by decide +kernel
theorem dX10_does_446 : decode cX10_does 446 = .ok (.invokevirtual 167, 3) := by decide +kernel
theorem dX10_does_449 : decode cX10_does 449 = .ok (.ifCond .eq 22, 3) := by decide +kernel
theorem dX10_does_452 : decode cX10_does 452 = .ok (.aload_n 0, 1) := by decide +kernel
theorem dX10_does_453 : decode cX10_does 453 = .ok (.invokevirtual 167, 3) := by decide +kernel
theorem dX10_does_456 : decode cX10_does 456 = .ok (.ifCond .eq 15, 3) := by decide +kernel
theorem dX10_does_459 : decode cX10_does 459 = .ok (.aload_n 0, 1) := by decide +kernel
theorem dX10_does_460 : decode cX10_does 460 = .ok (.iconst 1, 1) := by decide +kernel
theorem dX10_does_461 : decode cX10_does 461 = .ok (.invokevirtual 148, 3) := by decide +kernel
theorem dX10_does_464 : decode cX10_does 464 = .ok (.ifCond .eq 7, 3) := by decide +kernel
theorem dX10_does_467 : decode cX10_does 467 = .ok (.iconst 1, 1) := by decide +kernel
theorem dX10_does_468 : decode cX10_does 468 = .ok (.goto 4, 3) := by decide +kernel
theorem dX10_does_471 : decode cX10_does 471 = .ok (.iconst 0, 1) := by decide +kernel
theorem dX10_does_472 : decode cX10_does 472 = .ok (.ireturn, 1) := by decide +kernel
theorem dX10_does_473 : decode cX10_does 473 = .ok (.aload_n 0, 1) := by decide +kernel
theorem dX10_does_474 : decode cX10_does 474 = .ok (.iload_n 2, 1) := by decide +kernel
theorem dX10_does_475 : decode cX10_does 475 = .ok (.lload 4, 2) := by decide +kernel
theorem dX10_does_477 : decode cX10_does 477 = .ok (.invokevirtual 173, 3) := by decide +kernel
theorem dX10_does_480 : decode cX10_does 480 = .ok (.ireturn, 1) := by decide +kernel
theorem dX10_does_481 : decode cX10_does 481 = .ok (.aload_n 0, 1) := by decide +kernel
theorem dX10_does_482 : decode cX10_does 482 = .ok (.iload_n 1, 1) := by decide +kernel
theorem dX10_does_483 : decode cX10_does 483 = .ok (.lload 4, 2) := by decide +kernel
theorem dX10_does_485 : decode cX10_does 485 = .ok (.invokevirtual 177, 3) := by decide +kernel
theorem dX10_does_488 : decode cX10_does 488 = .ok (.ireturn, 1) := by decide +kernel
theorem dX10_does_489 : decode cX10_does 489 = .ok (.aload_n 0, 1) := by decide +kernel
theorem dX10_does_490 : decode cX10_does 490 = .ok (.iconst 1, 1) := by decide +kernel
theorem dX10_does_491 : decode cX10_does 491 = .ok (.invokevirtual 170, 3) := by decide +kernel
theorem dX10_does_494 : decode cX10_does 494 = .ok (.ifCond .eq 15, 3) := by decide +kernel
theorem dX10_does_497 : decode cX10_does 497 = .ok (.aload_n 0, 1) := by decide +kernel
theorem dX10_does_498 : decode cX10_does 498 = .ok (.iconst 5, 1) := by decide +kernel
theorem dX10_does_499 : decode cX10_does 499 = .ok (.invokevirtual 148, 3) := by decide +kernel
theorem dX10_does_502 : decode cX10_does 502 = .ok (.ifCond .eq 7, 3) := by decide +kernel
theorem dX10_does_505 : decode cX10_does 505 = .ok (.iconst 1, 1) := by decide +kernel
theorem dX10_does_506 : decode cX10_does 506 = .ok (.goto 4, 3) := by decide +kernel
theorem dX10_does_509 : decode cX10_does 509 = .ok (.iconst 0, 1) := by decide +kernel
theorem dX10_does_510 : decode cX10_does 510 = .ok (.ireturn, 1) := by decide +kernel
theorem dX10_does_511 : decode cX10_does 511 = .ok (.lload 4, 2) := by decide +kernel
theorem dX10_does_513 : decode cX10_does 513 = .ok (.lconst 1, 1) := by decide +kernel
theorem dX10_does_514 : decode cX10_does 514 = .ok (.ldc2_w 102, 3) := by decide +kernel
theorem dX10_does_517 : decode cX10_does 517 = .ok (.invokestatic 79, 3) := by decide +kernel
theorem dX10_does_520 : decode cX10_does 520 = .ok (.ifCond .eq 28, 3) := by decide +kernel
theorem dX10_does_523 : decode cX10_does 523 = .ok (.aload_n 0, 1) := by decide +kernel
theorem dX10_does_524 : decode cX10_does 524 = .ok (.iconst 1, 1) := by decide +kernel
theorem dX10_does_525 : decode cX10_does 525 = .ok (.invokevirtual 170, 3) := by decide +kernel
theorem dX10_does_528 : decode cX10_does 528 = .ok (.ifCond .eq 20, 3) := by decide +kernel
theorem dX10_does_531 : decode cX10_does 531 = .ok (.aload_n 0, 1) := by decide +kernel
theorem dX10_does_532 : decode cX10_does 532 = .ok (.bipush 20, 2) := by decide +kernel
theorem dX10_does_534 : decode cX10_does 534 = .ok (.lload 4, 2) := by decide +kernel
theorem dX10_does_536 : decode cX10_does 536 = .ok (.l2i, 1) := by decide +kernel
theorem dX10_does_537 : decode cX10_does 537 = .ok (.iadd, 1) := by decide +kernel
theorem dX10_does_538 : decode cX10_does 538 = .ok (.invokevirtual 148, 3) := by decide +kernel
theorem dX10_does_541 : decode cX10_does 541 = .ok (.ifCond .eq 7, 3) := by decide +kernel
theorem dX10_does_544 : decode cX10_does 544 = .ok (.iconst 1, 1) := by decide +kernel
theorem dX10_does_545 : decode cX10_does 545 = .ok (.goto 4, 3) := by decide +kernel
theorem dX10_does_548 : decode cX10_does 548 = .ok (.iconst 0, 1) := by decide +kernel
theorem dX10_does_549 : decode cX10_does 549 = .ok (.ireturn, 1) := by decide +kernel
theorem dX10_does_550 : decode cX10_does 550 = .ok (.aload_n 0, 1) := by decide +kernel
theorem dX10_does_551 : decode cX10_does 551 = .ok (.iload_n 1, 1) := by decide +kernel
theorem dX10_does_552 : decode cX10_does 552 = .ok (.iload_n 2, 1) := by decide +kernel
theorem dX10_does_553 : decode cX10_does 553 = .ok (.iload_n 3, 1) := by decide +kernel
theorem dX10_does_554 : decode cX10_does 554 = .ok (.lload 4, 2) := by decide +kernel
theorem dX10_does_556 : decode cX10_does 556 = .ok (.invokevirtual 180, 3) := by decide +kernel
theorem dX10_does_559 : decode cX10_does 559 = .ok (.ireturn, 1) := by decide +kernel
theorem dX10_isNew_0 : decode cX10_isNew 0 = .ok (.lload_n 2, 1) := by decide +kernel
theorem dX10_isNew_1 : decode cX10_isNew 1 = .ok (.lconst 1, 1) := by decide +kernel
theorem dX10_isNew_2 : decode cX10_isNew 2 = .ok (.ldc2_w 102, 3) := by decide +kernel
theorem dX10_isNew_5 : decode cX10_isNew 5 = .ok (.invokestatic 79, 3) := by decide +kernel
theorem dX10_isNew_8 : decode cX10_isNew 8 = .ok (.ifCond .ne 5, 3) := by decide +kernel
theorem dX10_isNew_11 : decode cX10_isNew 11 = .ok (.iconst 0, 1) := by decide +kernel
theorem dX10_isNew_12 : decode cX10_isNew 12 = .ok (.ireturn, 1) := by decide +kernel
theorem dX10_isNew_13 : decode cX10_isNew 13 = .ok (.iconst 0, 1) := by decide +kernel
theorem dX10_isNew_14 : decode cX10_isNew 14 = .ok (.istore 4, 2) := by decide +kernel
theorem dX10_isNew_16 : decode cX10_isNew 16 = .ok (.iload 4, 2) := by decide +kernel
theorem dX10_isNew_18 : decode cX10_isNew 18 = .ok (.aload_n 0, 1) := by decide +kernel
theorem dX10_isNew_19 : decode cX10_isNew 19 = .ok (.getfield 145, 3) := by decide +kernel
theorem dX10_isNew_22 : decode cX10_isNew 22 = .ok (.if_icmp .ge 28, 3) := by decide +kernel
theorem dX10_isNew_25 : decode cX10_isNew 25 = .ok (.aload_n 0, 1) := by decide +kernel
theorem dX10_isNew_26 : decode cX10_isNew 26 = .ok (.getfield 45, 3) := by decide +kernel
theorem dX10_isNew_29 : decode cX10_isNew 29 = .ok (.bipush 8, 2) := by decide +kernel
theorem dX10_isNew_31 : decode cX10_isNew 31 = .ok (.iload 4, 2) := by decide +kernel
theorem dX10_isNew_33 : decode cX10_isNew 33 = .ok (.iadd, 1) := by decide +kernel
theorem dX10_isNew_34 : decode cX10_isNew 34 = .ok (.iaload, 1) := by decide +kernel
theorem dX10_isNew_35 : decode cX10_isNew 35 = .ok (.bipush 100, 2) := by decide +kernel
theorem dX10_isNew_37 : decode cX10_isNew 37 = .ok (.iload_n 1, 1) := by decide +kernel
theorem dX10_isNew_38 : decode cX10_isNew 38 = .ok (.iadd, 1) := by decide +kernel
theorem dX10_isNew_39 : decode cX10_isNew 39 = .ok (.if_icmp .ne 5, 3) := by decide +kernel
theorem dX10_isNew_42 : decode cX10_isNew 42 = .ok (.iconst 0, 1) := by decide +kernel
theorem dX10_isNew_43 : decode cX10_isNew 43 = .ok (.ireturn, 1) := by decide +kernel
theorem dX10_isNew_44 : decode cX10_isNew 44 = .ok (.iinc 4 1, 3) := by decide +kernel
theorem dX10_isNew_47 : decode cX10_isNew 47 = .ok (.goto (-31), 3) := by decide +kernel
theorem dX10_isNew_50 : decode cX10_isNew 50 = .ok (.iconst 0, 1) := by decide +kernel
theorem dX10_isNew_51 : decode cX10_isNew 51 = .ok (.istore 4, 2) := by decide +kernel
theorem dX10_isNew_53 : decode cX10_isNew 53 = .ok (.iload 4, 2) := by decide +kernel
theorem dX10_isNew_55 : decode cX10_isNew 55 = .ok (.bipush 8, 2) := by decide +kernel
theorem dX10_isNew_57 : decode cX10_isNew 57 = .ok (.if_icmp .ge 41, 3) := by decide +kernel
theorem dX10_isNew_60 : decode cX10_isNew 60 = .ok (.aload_n 0, 1) := by decide +kernel
theorem dX10_isNew_61 : decode cX10_isNew 61 = .ok (.getfield 45, 3) := by decide +kernel
theorem dX10_isNew_64 : decode cX10_isNew 64 = .ok (.iload 4, 2) := by decide +kernel
theorem dX10_isNew_66 : decode cX10_isNew 66 = .ok (.aload_n 0, 1) := by decide +kernel
theorem dX10_isNew_67 : decode cX10_isNew 67 = .ok (.getfield 45, 3) := by decide +kernel
theorem dX10_isNew_70 : decode cX10_isNew 70 = .ok (.iload 4, 2) := by decide +kernel
theorem dX10_isNew_72 : decode cX10_isNew 72 = .ok (.iaload, 1) := by decide +kernel
theorem dX10_isNew_73 : decode cX10_isNew 73 = .ok (.bipush 100, 2) := by decide +kernel
theorem dX10_isNew_75 : decode cX10_isNew 75 = .ok (.iload_n 1, 1) := by decide +kernel
theorem dX10_isNew_76 : decode cX10_isNew 76 = .ok (.iadd, 1) := by decide +kernel
theorem dX10_isNew_77 : decode cX10_isNew 77 = .ok (.if_icmp .ne 7, 3) := by decide +kernel
theorem dX10_isNew_80 : decode cX10_isNew 80 = .ok (.iconst 0, 1) := by decide +kernel
theorem dX10_isNew_81 : decode cX10_isNew 81 = .ok (.goto 10, 3) := by decide +kernel
theorem dX10_isNew_84 : decode cX10_isNew 84 = .ok (.aload_n 0, 1) := by decide +kernel
theorem dX10_isNew_85 : decode cX10_isNew 85 = .ok (.getfield 45, 3) := by decide +kernel
theorem dX10_isNew_88 : decode cX10_isNew 88 = .ok (.iload 4, 2) := by decide +kernel
theorem dX10_isNew_90 : decode cX10_isNew 90 = .ok (.iaload, 1) := by decide +kernel
theorem dX10_isNew_91 : decode cX10_isNew 91 = .ok (.iastore, 1) := by decide +kernel
theorem dX10_isNew_92 : decode cX10_isNew 92 = .ok (.iinc 4 1, 3) := by decide +kernel
theorem dX10_isNew_95 : decode cX10_isNew 95 = .ok (.goto (-42), 3) := by decide +kernel
theorem dX10_isNew_98 : decode cX10_isNew 98 = .ok (.aload_n 0, 1) := by decide +kernel
theorem dX10_isNew_99 : decode cX10_isNew 99 = .ok (.bipush 100, 2) := by decide +kernel
theorem dX10_isNew_101 : decode cX10_isNew 101 = .ok (.iload_n 1, 1) := by decide +kernel
theorem dX10_isNew_102 : decode cX10_isNew 102 = .ok (.iadd, 1) := by decide +kernel
theorem dX10_isNew_103 : decode cX10_isNew 103 = .ok (.invokevirtual 148, 3) := by decide +kernel
theorem dX10_isNew_106 : decode cX10_isNew 106 = .ok (.ireturn, 1) := by decide +kernel
theorem dX10_isMade_0 : decode cX10_isMade 0 = .ok (.lload_n 2, 1) := by decide +kernel
theorem dX10_isMade_1 : decode cX10_isMade 1 = .ok (.lconst 1, 1) := by decide +kernel
theorem dX10_isMade_2 : decode cX10_isMade 2 = .ok (.ldc2_w 102, 3) := by decide +kernel
theorem dX10_isMade_5 : decode cX10_isMade 5 = .ok (.invokestatic 79, 3) := by decide +kernel
theorem dX10_isMade_8 : decode cX10_isMade 8 = .ok (.ifCond .eq 10, 3) := by decide +kernel
theorem dX10_isMade_11 : decode cX10_isMade 11 = .ok (.aload_n 0, 1) := by decide +kernel
theorem dX10_isMade_12 : decode cX10_isMade 12 = .ok (.getfield 145, 3) := by decide +kernel
theorem dX10_isMade_15 : decode cX10_isMade 15 = .ok (.ifCond .ne 5, 3) := by decide +kernel
theorem dX10_isMade_18 : decode cX10_isMade 18 = .ok (.iconst 0, 1) := by decide +kernel
theorem dX10_isMade_19 : decode cX10_isMade 19 = .ok (.ireturn, 1) := by decide +kernel
theorem dX10_isMade_20 : decode cX10_isMade 20 = .ok (.aload_n 0, 1) := by decide +kernel
theorem dX10_isMade_21 : decode cX10_isMade 21 = .ok (.getfield 45, 3) := by decide +kernel
theorem dX10_isMade_24 : decode cX10_isMade 24 = .ok (.bipush 7, 2) := by decide +kernel
theorem dX10_isMade_26 : decode cX10_isMade 26 = .ok (.aload_n 0, 1) := by decide +kernel
theorem dX10_isMade_27 : decode cX10_isMade 27 = .ok (.getfield 145, 3) := by decide +kernel
theorem dX10_isMade_30 : decode cX10_isMade 30 = .ok (.iadd, 1) := by decide +kernel
theorem dX10_isMade_31 : decode cX10_isMade 31 = .ok (.iaload, 1) := by decide +kernel
theorem dX10_isMade_32 : decode cX10_isMade 32 = .ok (.istore 4, 2) := by decide +kernel
theorem dX10_isMade_34 : decode cX10_isMade 34 = .ok (.iload 4, 2) := by decide +kernel
theorem dX10_isMade_36 : decode cX10_isMade 36 = .ok (.bipush 100, 2) := by decide +kernel
theorem dX10_isMade_38 : decode cX10_isMade 38 = .ok (.isub, 1) := by decide +kernel
theorem dX10_isMade_39 : decode cX10_isMade 39 = .ok (.istore 5, 2) := by decide +kernel
theorem dX10_isMade_41 : decode cX10_isMade 41 = .ok (.iload 5, 2) := by decide +kernel
theorem dX10_isMade_43 : decode cX10_isMade 43 = .ok (.i2l, 1) := by decide +kernel
theorem dX10_isMade_44 : decode cX10_isMade 44 = .ok (.lconst 0, 1) := by decide +kernel
theorem dX10_isMade_45 : decode cX10_isMade 45 = .ok (.aload_n 0, 1) := by decide +kernel
theorem dX10_isMade_46 : decode cX10_isMade 46 = .ok (.getfield 13, 3) := by decide +kernel
theorem dX10_isMade_49 : decode cX10_isMade 49 = .ok (.iload_n 1, 1) := by decide +kernel
theorem dX10_isMade_50 : decode cX10_isMade 50 = .ok (.iaload, 1) := by decide +kernel
theorem dX10_isMade_51 : decode cX10_isMade 51 = .ok (.iconst 1, 1) := by decide +kernel
theorem dX10_isMade_52 : decode cX10_isMade 52 = .ok (.isub, 1) := by decide +kernel
theorem dX10_isMade_53 : decode cX10_isMade 53 = .ok (.i2l, 1) := by decide +kernel
theorem dX10_isMade_54 : decode cX10_isMade 54 = .ok (.invokestatic 79, 3) := by decide +kernel
theorem dX10_isMade_57 : decode cX10_isMade 57 = .ok (.ifCond .eq 37, 3) := by decide +kernel
theorem dX10_isMade_60 : decode cX10_isMade 60 = .ok (.aload_n 0, 1) := by decide +kernel
theorem dX10_isMade_61 : decode cX10_isMade 61 = .ok (.getfield 16, 3) := by decide +kernel
theorem dX10_isMade_64 : decode cX10_isMade 64 = .ok (.bipush 40, 2) := by decide +kernel
theorem dX10_isMade_66 : decode cX10_isMade 66 = .ok (.iload_n 1, 1) := by decide +kernel
theorem dX10_isMade_67 : decode cX10_isMade 67 = .ok (.imul, 1) := by decide +kernel
theorem dX10_isMade_68 : decode cX10_isMade 68 = .ok (.iload 5, 2) := by decide +kernel
theorem dX10_isMade_70 : decode cX10_isMade 70 = .ok (.iadd, 1) := by decide +kernel
theorem dX10_isMade_71 : decode cX10_isMade 71 = .ok (.iaload, 1) := by decide +kernel
theorem dX10_isMade_72 : decode cX10_isMade 72 = .ok (.bipush 12, 2) := by decide +kernel
theorem dX10_isMade_74 : decode cX10_isMade 74 = .ok (.if_icmp .ne 20, 3) := by decide +kernel
theorem dX10_isMade_77 : decode cX10_isMade 77 = .ok (.aload_n 0, 1) := by decide +kernel
theorem dX10_isMade_78 : decode cX10_isMade 78 = .ok (.getfield 19, 3) := by decide +kernel
theorem dX10_isMade_81 : decode cX10_isMade 81 = .ok (.bipush 40, 2) := by decide +kernel
theorem dX10_isMade_83 : decode cX10_isMade 83 = .ok (.iload_n 1, 1) := by decide +kernel
theorem dX10_isMade_84 : decode cX10_isMade 84 = .ok (.imul, 1) := by decide +kernel
theorem dX10_isMade_85 : decode cX10_isMade 85 = .ok (.iload 5, 2) := by decide +kernel
theorem dX10_isMade_87 : decode cX10_isMade 87 = .ok (.iadd, 1) := by decide +kernel
theorem dX10_isMade_88 : decode cX10_isMade 88 = .ok (.laload, 1) := by decide +kernel
theorem dX10_isMade_89 : decode cX10_isMade 89 = .ok (.lload_n 2, 1) := by decide +kernel
theorem dX10_isMade_90 : decode cX10_isMade 90 = .ok (.lcmp, 1) := by decide +kernel
theorem dX10_isMade_91 : decode cX10_isMade 91 = .ok (.ifCond .eq 5, 3) := by decide +kernel
theorem dX10_isMade_94 : decode cX10_isMade 94 = .ok (.iconst 0, 1) := by decide +kernel
theorem dX10_isMade_95 : decode cX10_isMade 95 = .ok (.ireturn, 1) := by decide +kernel
theorem dX10_isMade_96 : decode cX10_isMade 96 = .ok (.aload_n 0, 1) := by decide +kernel
theorem dX10_isMade_97 : decode cX10_isMade 97 = .ok (.dup, 1) := by decide +kernel
theorem dX10_isMade_98 : decode cX10_isMade 98 = .ok (.getfield 145, 3) := by decide +kernel
theorem dX10_isMade_101 : decode cX10_isMade 101 = .ok (.iconst 1, 1) := by decide +kernel
theorem dX10_isMade_102 : decode cX10_isMade 102 = .ok (.isub, 1) := by decide +kernel
theorem dX10_isMade_103 : decode cX10_isMade 103 = .ok (.putfield 145, 3) := by decide +kernel
theorem dX10_isMade_106 : decode cX10_isMade 106 = .ok (.iconst 0, 1) := by decide +kernel
theorem dX10_isMade_107 : decode cX10_isMade 107 = .ok (.istore 6, 2) := by decide +kernel
theorem dX10_isMade_109 : decode cX10_isMade 109 = .ok (.iload 6, 2) := by decide +kernel
theorem dX10_isMade_111 : decode cX10_isMade 111 = .ok (.bipush 8, 2) := by decide +kernel
theorem dX10_isMade_113 : decode cX10_isMade 113 = .ok (.aload_n 0, 1) := by decide +kernel
theorem dX10_isMade_114 : decode cX10_isMade 114 = .ok (.getfield 145, 3) := by decide +kernel
theorem dX10_isMade_117 : decode cX10_isMade 117 = .ok (.iadd, 1) := by decide +kernel
theorem dX10_isMade_118 : decode cX10_isMade 118 = .ok (.if_icmp .ge 43, 3) := by decide +kernel
theorem dX10_isMade_121 : decode cX10_isMade 121 = .ok (.aload_n 0, 1) := by decide +kernel
theorem dX10_isMade_122 : decode cX10_isMade 122 = .ok (.getfield 45, 3) := by decide +kernel
theorem dX10_isMade_125 : decode cX10_isMade 125 = .ok (.iload 6, 2) := by decide +kernel
theorem dX10_isMade_127 : decode cX10_isMade 127 = .ok (.aload_n 0, 1) := by decide +kernel
theorem dX10_isMade_128 : decode cX10_isMade 128 = .ok (.getfield 45, 3) := by decide +kernel
theorem dX10_isMade_131 : decode cX10_isMade 131 = .ok (.iload 6, 2) := by decide +kernel
theorem dX10_isMade_133 : decode cX10_isMade 133 = .ok (.iaload, 1) := by decide +kernel
theorem dX10_isMade_134 : decode cX10_isMade 134 = .ok (.iload 4, 2) := by decide +kernel
theorem dX10_isMade_136 : decode cX10_isMade 136 = .ok (.if_icmp .ne 11, 3) := by decide +kernel
theorem dX10_isMade_139 : decode cX10_isMade 139 = .ok (.bipush 10, 2) := by decide +kernel
theorem dX10_isMade_141 : decode cX10_isMade 141 = .ok (.lload_n 2, 1) := by decide +kernel
theorem dX10_isMade_142 : decode cX10_isMade 142 = .ok (.l2i, 1) := by decide +kernel
theorem dX10_isMade_143 : decode cX10_isMade 143 = .ok (.iadd, 1) := by decide +kernel
theorem dX10_isMade_144 : decode cX10_isMade 144 = .ok (.goto 10, 3) := by decide +kernel
theorem dX10_isMade_147 : decode cX10_isMade 147 = .ok (.aload_n 0, 1) := by decide +kernel
theorem dX10_isMade_148 : decode cX10_isMade 148 = .ok (.getfield 45, 3) := by decide +kernel
theorem dX10_isMade_151 : decode cX10_isMade 151 = .ok (.iload 6, 2) := by decide +kernel
theorem dX10_isMade_153 : decode cX10_isMade 153 = .ok (.iaload, 1) := by decide +kernel
theorem dX10_isMade_154 : decode cX10_isMade 154 = .ok (.iastore, 1) := by decide +kernel
theorem dX10_isMade_155 : decode cX10_isMade 155 = .ok (.iinc 6 1, 3) := by decide +kernel
theorem dX10_isMade_158 : decode cX10_isMade 158 = .ok (.goto (-49), 3) := by decide +kernel
theorem dX10_isMade_161 : decode cX10_isMade 161 = .ok (.iconst 1, 1) := by decide +kernel
theorem dX10_isMade_162 : decode cX10_isMade 162 = .ok (.ireturn, 1) := by decide +kernel
theorem dX10_doesMore_0 : decode cX10_doesMore 0 = .ok (.iconst 0, 1) := by decide +kernel
theorem dX10_doesMore_1 : decode cX10_doesMore 1 = .ok (.istore 6, 2) := by decide +kernel
theorem dX10_doesMore_3 : decode cX10_doesMore 3 = .ok (.iconst 0, 1) := by decide +kernel
theorem dX10_doesMore_4 : decode cX10_doesMore 4 = .ok (.istore 7, 2) := by decide +kernel
theorem dX10_doesMore_6 : decode cX10_doesMore 6 = .ok (.iload_n 3, 1) := by decide +kernel
theorem dX10_doesMore_7 : decode cX10_doesMore 7 = .ok (.tableswitch 749 16 34 #[89, 152, 182, 212, 292, 364, 364, 414, 437, 414, 460, 493, 515, 591, 607, 639, 672, 678, 672], 89) := by decide +kernel
theorem dX10_doesMore_96 : decode cX10_doesMore 96 = .ok (.aload_n 0, 1) := by decide +kernel
theorem dX10_doesMore_97 : decode cX10_doesMore 97 = .ok (.getfield 145, 3) := by decide +kernel
theorem dX10_doesMore_100 : decode cX10_doesMore 100 = .ok (.ifCond .le 18, 3) := by decide +kernel
theorem dX10_doesMore_103 : decode cX10_doesMore 103 = .ok (.aload_n 0, 1) := by decide +kernel
theorem dX10_doesMore_104 : decode cX10_doesMore 104 = .ok (.getfield 45, 3) := by decide +kernel
theorem dX10_doesMore_107 : decode cX10_doesMore 107 = .ok (.bipush 7, 2) := by decide +kernel
theorem dX10_doesMore_109 : decode cX10_doesMore 109 = .ok (.aload_n 0, 1) := by decide +kernel
theorem dX10_doesMore_110 : decode cX10_doesMore 110 = .ok (.getfield 145, 3) := by decide +kernel
theorem dX10_doesMore_113 : decode cX10_doesMore 113 = .ok (.iadd, 1) := by decide +kernel
theorem dX10_doesMore_114 : decode cX10_doesMore 114 = .ok (.iaload, 1) := by decide +kernel
theorem dX10_doesMore_115 : decode cX10_doesMore 115 = .ok (.goto 4, 3) := by decide +kernel
theorem dX10_doesMore_118 : decode cX10_doesMore 118 = .ok (.iconst 0, 1) := by decide +kernel
theorem dX10_doesMore_119 : decode cX10_doesMore 119 = .ok (.istore 6, 2) := by decide +kernel
theorem dX10_doesMore_121 : decode cX10_doesMore 121 = .ok (.iload 6, 2) := by decide +kernel
theorem dX10_doesMore_123 : decode cX10_doesMore 123 = .ok (.iconst 5, 1) := by decide +kernel
theorem dX10_doesMore_124 : decode cX10_doesMore 124 = .ok (.if_icmp .eq 19, 3) := by decide +kernel
theorem dX10_doesMore_127 : decode cX10_doesMore 127 = .ok (.iload 6, 2) := by decide +kernel
theorem dX10_doesMore_129 : decode cX10_doesMore 129 = .ok (.invokestatic 99, 3) := by decide +kernel
theorem dX10_doesMore_132 : decode cX10_doesMore 132 = .ok (.ifCond .ne 11, 3) := by decide +kernel
theorem dX10_doesMore_135 : decode cX10_doesMore 135 = .ok (.iload 6, 2) := by decide +kernel
theorem dX10_doesMore_137 : decode cX10_doesMore 137 = .ok (.iconst 4, 1) := by decide +kernel
theorem dX10_doesMore_138 : decode cX10_doesMore 138 = .ok (.if_icmp .eq 5, 3) := by decide +kernel
theorem dX10_doesMore_141 : decode cX10_doesMore 141 = .ok (.iconst 0, 1) := by decide +kernel
theorem dX10_doesMore_142 : decode cX10_doesMore 142 = .ok (.ireturn, 1) := by decide +kernel
theorem dX10_doesMore_143 : decode cX10_doesMore 143 = .ok (.aload_n 0, 1) := by decide +kernel
theorem dX10_doesMore_144 : decode cX10_doesMore 144 = .ok (.dup, 1) := by decide +kernel
theorem dX10_doesMore_145 : decode cX10_doesMore 145 = .ok (.getfield 145, 3) := by decide +kernel
theorem dX10_doesMore_148 : decode cX10_doesMore 148 = .ok (.iconst 1, 1) := by decide +kernel
end
section
theorem dX10_doesMore_149 : decode cX10_doesMore 149 = .ok (.isub, 1) := by decide +kernel
theorem dX10_doesMore_150 : decode cX10_doesMore 150 = .ok (.putfield 145, 3) := by decide +kernel
theorem dX10_doesMore_153 : decode cX10_doesMore 153 = .ok (.aload_n 0, 1) := by decide +kernel
theorem dX10_doesMore_154 : decode cX10_doesMore 154 = .ok (.iconst 1, 1) := by decide +kernel
theorem dX10_doesMore_155 : decode cX10_doesMore 155 = .ok (.invokevirtual 148, 3) := by decide +kernel
theorem dX10_doesMore_158 : decode cX10_doesMore 158 = .ok (.ireturn, 1) := by decide +kernel
theorem dX10_doesMore_159 : decode cX10_doesMore 159 = .ok (.aload_n 0, 1) := by decide +kernel
theorem dX10_doesMore_160 : decode cX10_doesMore 160 = .ok (.iconst 1, 1) := by decide +kernel
theorem dX10_doesMore_161 : decode cX10_doesMore 161 = .ok (.invokevirtual 170, 3) := by decide +kernel
theorem dX10_doesMore_164 : decode cX10_doesMore 164 = .ok (.ifCond .eq 23, 3) := by decide +kernel
theorem dX10_doesMore_167 : decode cX10_doesMore 167 = .ok (.aload_n 0, 1) := by decide +kernel
theorem dX10_doesMore_168 : decode cX10_doesMore 168 = .ok (.iconst 5, 1) := by decide +kernel
theorem dX10_doesMore_169 : decode cX10_doesMore 169 = .ok (.invokevirtual 170, 3) := by decide +kernel
theorem dX10_doesMore_172 : decode cX10_doesMore 172 = .ok (.ifCond .eq 15, 3) := by decide +kernel
theorem dX10_doesMore_175 : decode cX10_doesMore 175 = .ok (.aload_n 0, 1) := by decide +kernel
theorem dX10_doesMore_176 : decode cX10_doesMore 176 = .ok (.iconst 1, 1) := by decide +kernel
theorem dX10_doesMore_177 : decode cX10_doesMore 177 = .ok (.invokevirtual 148, 3) := by decide +kernel
theorem dX10_doesMore_180 : decode cX10_doesMore 180 = .ok (.ifCond .eq 7, 3) := by decide +kernel
theorem dX10_doesMore_183 : decode cX10_doesMore 183 = .ok (.iconst 1, 1) := by decide +kernel
theorem dX10_doesMore_184 : decode cX10_doesMore 184 = .ok (.goto 4, 3) := by decide +kernel
theorem dX10_doesMore_187 : decode cX10_doesMore 187 = .ok (.iconst 0, 1) := by decide +kernel
theorem dX10_doesMore_188 : decode cX10_doesMore 188 = .ok (.ireturn, 1) := by decide +kernel
theorem dX10_doesMore_189 : decode cX10_doesMore 189 = .ok (.aload_n 0, 1) := by decide +kernel
theorem dX10_doesMore_190 : decode cX10_doesMore 190 = .ok (.iconst 1, 1) := by decide +kernel
theorem dX10_doesMore_191 : decode cX10_doesMore 191 = .ok (.invokevirtual 170, 3) := by decide +kernel
theorem dX10_doesMore_194 : decode cX10_doesMore 194 = .ok (.ifCond .eq 23, 3) := by decide +kernel
theorem dX10_doesMore_197 : decode cX10_doesMore 197 = .ok (.aload_n 0, 1) := by decide +kernel
theorem dX10_doesMore_198 : decode cX10_doesMore 198 = .ok (.iconst 1, 1) := by decide +kernel
theorem dX10_doesMore_199 : decode cX10_doesMore 199 = .ok (.invokevirtual 170, 3) := by decide +kernel
theorem dX10_doesMore_202 : decode cX10_doesMore 202 = .ok (.ifCond .eq 15, 3) := by decide +kernel
theorem dX10_doesMore_205 : decode cX10_doesMore 205 = .ok (.aload_n 0, 1) := by decide +kernel
theorem dX10_doesMore_206 : decode cX10_doesMore 206 = .ok (.iconst 5, 1) := by decide +kernel
theorem dX10_doesMore_207 : decode cX10_doesMore 207 = .ok (.invokevirtual 170, 3) := by decide +kernel
theorem dX10_doesMore_210 : decode cX10_doesMore 210 = .ok (.ifCond .eq 7, 3) := by decide +kernel
theorem dX10_doesMore_213 : decode cX10_doesMore 213 = .ok (.iconst 1, 1) := by decide +kernel
theorem dX10_doesMore_214 : decode cX10_doesMore 214 = .ok (.goto 4, 3) := by decide +kernel
theorem dX10_doesMore_217 : decode cX10_doesMore 217 = .ok (.iconst 0, 1) := by decide +kernel
theorem dX10_doesMore_218 : decode cX10_doesMore 218 = .ok (.ireturn, 1) := by decide +kernel
theorem dX10_doesMore_219 : decode cX10_doesMore 219 = .ok (.aload_n 0, 1) := by decide +kernel
theorem dX10_doesMore_220 : decode cX10_doesMore 220 = .ok (.iconst 1, 1) := by decide +kernel
theorem dX10_doesMore_221 : decode cX10_doesMore 221 = .ok (.invokevirtual 170, 3) := by decide +kernel
theorem dX10_doesMore_224 : decode cX10_doesMore 224 = .ok (.ifCond .eq 10, 3) := by decide +kernel
theorem dX10_doesMore_227 : decode cX10_doesMore 227 = .ok (.aload_n 0, 1) := by decide +kernel
theorem dX10_doesMore_228 : decode cX10_doesMore 228 = .ok (.getfield 145, 3) := by decide +kernel
theorem dX10_doesMore_231 : decode cX10_doesMore 231 = .ok (.ifCond .ne 5, 3) := by decide +kernel
theorem dX10_doesMore_234 : decode cX10_doesMore 234 = .ok (.iconst 0, 1) := by decide +kernel
theorem dX10_doesMore_235 : decode cX10_doesMore 235 = .ok (.ireturn, 1) := by decide +kernel
theorem dX10_doesMore_236 : decode cX10_doesMore 236 = .ok (.aload_n 0, 1) := by decide +kernel
theorem dX10_doesMore_237 : decode cX10_doesMore 237 = .ok (.getfield 45, 3) := by decide +kernel
theorem dX10_doesMore_240 : decode cX10_doesMore 240 = .ok (.bipush 7, 2) := by decide +kernel
theorem dX10_doesMore_242 : decode cX10_doesMore 242 = .ok (.aload_n 0, 1) := by decide +kernel
theorem dX10_doesMore_243 : decode cX10_doesMore 243 = .ok (.getfield 145, 3) := by decide +kernel
theorem dX10_doesMore_246 : decode cX10_doesMore 246 = .ok (.iadd, 1) := by decide +kernel
theorem dX10_doesMore_247 : decode cX10_doesMore 247 = .ok (.iaload, 1) := by decide +kernel
theorem dX10_doesMore_248 : decode cX10_doesMore 248 = .ok (.istore 6, 2) := by decide +kernel
theorem dX10_doesMore_250 : decode cX10_doesMore 250 = .ok (.iload 6, 2) := by decide +kernel
theorem dX10_doesMore_252 : decode cX10_doesMore 252 = .ok (.invokestatic 99, 3) := by decide +kernel
theorem dX10_doesMore_255 : decode cX10_doesMore 255 = .ok (.ifCond .ne 11, 3) := by decide +kernel
theorem dX10_doesMore_258 : decode cX10_doesMore 258 = .ok (.iload 6, 2) := by decide +kernel
theorem dX10_doesMore_260 : decode cX10_doesMore 260 = .ok (.iconst 4, 1) := by decide +kernel
theorem dX10_doesMore_261 : decode cX10_doesMore 261 = .ok (.if_icmp .eq 5, 3) := by decide +kernel
theorem dX10_doesMore_264 : decode cX10_doesMore 264 = .ok (.iconst 0, 1) := by decide +kernel
theorem dX10_doesMore_265 : decode cX10_doesMore 265 = .ok (.ireturn, 1) := by decide +kernel
theorem dX10_doesMore_266 : decode cX10_doesMore 266 = .ok (.aload_n 0, 1) := by decide +kernel
theorem dX10_doesMore_267 : decode cX10_doesMore 267 = .ok (.dup, 1) := by decide +kernel
theorem dX10_doesMore_268 : decode cX10_doesMore 268 = .ok (.getfield 145, 3) := by decide +kernel
theorem dX10_doesMore_271 : decode cX10_doesMore 271 = .ok (.iconst 1, 1) := by decide +kernel
theorem dX10_doesMore_272 : decode cX10_doesMore 272 = .ok (.isub, 1) := by decide +kernel
theorem dX10_doesMore_273 : decode cX10_doesMore 273 = .ok (.putfield 145, 3) := by decide +kernel
theorem dX10_doesMore_276 : decode cX10_doesMore 276 = .ok (.aload_n 0, 1) := by decide +kernel
theorem dX10_doesMore_277 : decode cX10_doesMore 277 = .ok (.iload 6, 2) := by decide +kernel
theorem dX10_doesMore_279 : decode cX10_doesMore 279 = .ok (.iconst 4, 1) := by decide +kernel
theorem dX10_doesMore_280 : decode cX10_doesMore 280 = .ok (.if_icmp .ne 7, 3) := by decide +kernel
theorem dX10_doesMore_283 : decode cX10_doesMore 283 = .ok (.iconst 4, 1) := by decide +kernel
theorem dX10_doesMore_284 : decode cX10_doesMore 284 = .ok (.goto 11, 3) := by decide +kernel
theorem dX10_doesMore_287 : decode cX10_doesMore 287 = .ok (.bipush 10, 2) := by decide +kernel
theorem dX10_doesMore_289 : decode cX10_doesMore 289 = .ok (.iload 6, 2) := by decide +kernel
theorem dX10_doesMore_291 : decode cX10_doesMore 291 = .ok (.iadd, 1) := by decide +kernel
theorem dX10_doesMore_292 : decode cX10_doesMore 292 = .ok (.bipush 20, 2) := by decide +kernel
theorem dX10_doesMore_294 : decode cX10_doesMore 294 = .ok (.isub, 1) := by decide +kernel
theorem dX10_doesMore_295 : decode cX10_doesMore 295 = .ok (.invokevirtual 148, 3) := by decide +kernel
theorem dX10_doesMore_298 : decode cX10_doesMore 298 = .ok (.ireturn, 1) := by decide +kernel
theorem dX10_doesMore_299 : decode cX10_doesMore 299 = .ok (.aload_n 0, 1) := by decide +kernel
theorem dX10_doesMore_300 : decode cX10_doesMore 300 = .ok (.bipush 10, 2) := by decide +kernel
theorem dX10_doesMore_302 : decode cX10_doesMore 302 = .ok (.invokevirtual 170, 3) := by decide +kernel
theorem dX10_doesMore_305 : decode cX10_doesMore 305 = .ok (.ifCond .eq 52, 3) := by decide +kernel
theorem dX10_doesMore_308 : decode cX10_doesMore 308 = .ok (.aload_n 0, 1) := by decide +kernel
theorem dX10_doesMore_309 : decode cX10_doesMore 309 = .ok (.iconst 1, 1) := by decide +kernel
theorem dX10_doesMore_310 : decode cX10_doesMore 310 = .ok (.invokevirtual 170, 3) := by decide +kernel
theorem dX10_doesMore_313 : decode cX10_doesMore 313 = .ok (.ifCond .eq 44, 3) := by decide +kernel
theorem dX10_doesMore_316 : decode cX10_doesMore 316 = .ok (.aload_n 0, 1) := by decide +kernel
theorem dX10_doesMore_317 : decode cX10_doesMore 317 = .ok (.getfield 145, 3) := by decide +kernel
theorem dX10_doesMore_320 : decode cX10_doesMore 320 = .ok (.ifCond .eq 37, 3) := by decide +kernel
theorem dX10_doesMore_323 : decode cX10_doesMore 323 = .ok (.aload_n 0, 1) := by decide +kernel
theorem dX10_doesMore_324 : decode cX10_doesMore 324 = .ok (.getfield 45, 3) := by decide +kernel
theorem dX10_doesMore_327 : decode cX10_doesMore 327 = .ok (.bipush 7, 2) := by decide +kernel
theorem dX10_doesMore_329 : decode cX10_doesMore 329 = .ok (.aload_n 0, 1) := by decide +kernel
theorem dX10_doesMore_330 : decode cX10_doesMore 330 = .ok (.getfield 145, 3) := by decide +kernel
theorem dX10_doesMore_333 : decode cX10_doesMore 333 = .ok (.iadd, 1) := by decide +kernel
theorem dX10_doesMore_334 : decode cX10_doesMore 334 = .ok (.iaload, 1) := by decide +kernel
theorem dX10_doesMore_335 : decode cX10_doesMore 335 = .ok (.invokestatic 99, 3) := by decide +kernel
theorem dX10_doesMore_338 : decode cX10_doesMore 338 = .ok (.ifCond .ne 21, 3) := by decide +kernel
theorem dX10_doesMore_341 : decode cX10_doesMore 341 = .ok (.aload_n 0, 1) := by decide +kernel
theorem dX10_doesMore_342 : decode cX10_doesMore 342 = .ok (.getfield 45, 3) := by decide +kernel
theorem dX10_doesMore_345 : decode cX10_doesMore 345 = .ok (.bipush 7, 2) := by decide +kernel
theorem dX10_doesMore_347 : decode cX10_doesMore 347 = .ok (.aload_n 0, 1) := by decide +kernel
theorem dX10_doesMore_348 : decode cX10_doesMore 348 = .ok (.getfield 145, 3) := by decide +kernel
theorem dX10_doesMore_351 : decode cX10_doesMore 351 = .ok (.iadd, 1) := by decide +kernel
theorem dX10_doesMore_352 : decode cX10_doesMore 352 = .ok (.iaload, 1) := by decide +kernel
theorem dX10_doesMore_353 : decode cX10_doesMore 353 = .ok (.iconst 4, 1) := by decide +kernel
theorem dX10_doesMore_354 : decode cX10_doesMore 354 = .ok (.if_icmp .eq 5, 3) := by decide +kernel
theorem dX10_doesMore_357 : decode cX10_doesMore 357 = .ok (.iconst 0, 1) := by decide +kernel
theorem dX10_doesMore_358 : decode cX10_doesMore 358 = .ok (.ireturn, 1) := by decide +kernel
theorem dX10_doesMore_359 : decode cX10_doesMore 359 = .ok (.aload_n 0, 1) := by decide +kernel
theorem dX10_doesMore_360 : decode cX10_doesMore 360 = .ok (.dup, 1) := by decide +kernel
theorem dX10_doesMore_361 : decode cX10_doesMore 361 = .ok (.getfield 145, 3) := by decide +kernel
theorem dX10_doesMore_364 : decode cX10_doesMore 364 = .ok (.iconst 1, 1) := by decide +kernel
theorem dX10_doesMore_365 : decode cX10_doesMore 365 = .ok (.isub, 1) := by decide +kernel
theorem dX10_doesMore_366 : decode cX10_doesMore 366 = .ok (.putfield 145, 3) := by decide +kernel
theorem dX10_doesMore_369 : decode cX10_doesMore 369 = .ok (.iconst 1, 1) := by decide +kernel
theorem dX10_doesMore_370 : decode cX10_doesMore 370 = .ok (.ireturn, 1) := by decide +kernel
theorem dX10_doesMore_371 : decode cX10_doesMore 371 = .ok (.lload 4, 2) := by decide +kernel
theorem dX10_doesMore_373 : decode cX10_doesMore 373 = .ok (.lconst 0, 1) := by decide +kernel
theorem dX10_doesMore_374 : decode cX10_doesMore 374 = .ok (.ldc2_w 139, 3) := by decide +kernel
theorem dX10_doesMore_377 : decode cX10_doesMore 377 = .ok (.invokestatic 79, 3) := by decide +kernel
theorem dX10_doesMore_380 : decode cX10_doesMore 380 = .ok (.ifCond .eq 39, 3) := by decide +kernel
theorem dX10_doesMore_383 : decode cX10_doesMore 383 = .ok (.aload_n 0, 1) := by decide +kernel
theorem dX10_doesMore_384 : decode cX10_doesMore 384 = .ok (.bipush 10, 2) := by decide +kernel
theorem dX10_doesMore_386 : decode cX10_doesMore 386 = .ok (.invokevirtual 170, 3) := by decide +kernel
theorem dX10_doesMore_389 : decode cX10_doesMore 389 = .ok (.ifCond .eq 30, 3) := by decide +kernel
theorem dX10_doesMore_392 : decode cX10_doesMore 392 = .ok (.aload_n 0, 1) := by decide +kernel
theorem dX10_doesMore_393 : decode cX10_doesMore 393 = .ok (.iload_n 3, 1) := by decide +kernel
theorem dX10_doesMore_394 : decode cX10_doesMore 394 = .ok (.bipush 21, 2) := by decide +kernel
theorem dX10_doesMore_396 : decode cX10_doesMore 396 = .ok (.if_icmp .ne 12, 3) := by decide +kernel
theorem dX10_doesMore_399 : decode cX10_doesMore 399 = .ok (.bipush 10, 2) := by decide +kernel
theorem dX10_doesMore_401 : decode cX10_doesMore 401 = .ok (.lload 4, 2) := by decide +kernel
theorem dX10_doesMore_403 : decode cX10_doesMore 403 = .ok (.l2i, 1) := by decide +kernel
theorem dX10_doesMore_404 : decode cX10_doesMore 404 = .ok (.iadd, 1) := by decide +kernel
theorem dX10_doesMore_405 : decode cX10_doesMore 405 = .ok (.goto 4, 3) := by decide +kernel
theorem dX10_doesMore_408 : decode cX10_doesMore 408 = .ok (.iconst 1, 1) := by decide +kernel
theorem dX10_doesMore_409 : decode cX10_doesMore 409 = .ok (.invokevirtual 148, 3) := by decide +kernel
theorem dX10_doesMore_412 : decode cX10_doesMore 412 = .ok (.ifCond .eq 7, 3) := by decide +kernel
theorem dX10_doesMore_415 : decode cX10_doesMore 415 = .ok (.iconst 1, 1) := by decide +kernel
theorem dX10_doesMore_416 : decode cX10_doesMore 416 = .ok (.goto 4, 3) := by decide +kernel
theorem dX10_doesMore_419 : decode cX10_doesMore 419 = .ok (.iconst 0, 1) := by decide +kernel
theorem dX10_doesMore_420 : decode cX10_doesMore 420 = .ok (.ireturn, 1) := by decide +kernel
theorem dX10_doesMore_421 : decode cX10_doesMore 421 = .ok (.aload_n 0, 1) := by decide +kernel
theorem dX10_doesMore_422 : decode cX10_doesMore 422 = .ok (.bipush 11, 2) := by decide +kernel
theorem dX10_doesMore_424 : decode cX10_doesMore 424 = .ok (.invokevirtual 170, 3) := by decide +kernel
theorem dX10_doesMore_427 : decode cX10_doesMore 427 = .ok (.ifCond .eq 15, 3) := by decide +kernel
theorem dX10_doesMore_430 : decode cX10_doesMore 430 = .ok (.aload_n 0, 1) := by decide +kernel
theorem dX10_doesMore_431 : decode cX10_doesMore 431 = .ok (.iconst 1, 1) := by decide +kernel
theorem dX10_doesMore_432 : decode cX10_doesMore 432 = .ok (.invokevirtual 148, 3) := by decide +kernel
theorem dX10_doesMore_435 : decode cX10_doesMore 435 = .ok (.ifCond .eq 7, 3) := by decide +kernel
theorem dX10_doesMore_438 : decode cX10_doesMore 438 = .ok (.iconst 1, 1) := by decide +kernel
theorem dX10_doesMore_439 : decode cX10_doesMore 439 = .ok (.goto 4, 3) := by decide +kernel
theorem dX10_doesMore_442 : decode cX10_doesMore 442 = .ok (.iconst 0, 1) := by decide +kernel
theorem dX10_doesMore_443 : decode cX10_doesMore 443 = .ok (.ireturn, 1) := by decide +kernel
theorem dX10_doesMore_444 : decode cX10_doesMore 444 = .ok (.aload_n 0, 1) := by decide +kernel
theorem dX10_doesMore_445 : decode cX10_doesMore 445 = .ok (.iconst 1, 1) := by decide +kernel
theorem dX10_doesMore_446 : decode cX10_doesMore 446 = .ok (.invokevirtual 170, 3) := by decide +kernel
theorem dX10_doesMore_449 : decode cX10_doesMore 449 = .ok (.ifCond .eq 16, 3) := by decide +kernel
theorem dX10_doesMore_452 : decode cX10_doesMore 452 = .ok (.aload_n 0, 1) := by decide +kernel
theorem dX10_doesMore_453 : decode cX10_doesMore 453 = .ok (.bipush 11, 2) := by decide +kernel
theorem dX10_doesMore_455 : decode cX10_doesMore 455 = .ok (.invokevirtual 170, 3) := by decide +kernel
theorem dX10_doesMore_458 : decode cX10_doesMore 458 = .ok (.ifCond .eq 7, 3) := by decide +kernel
theorem dX10_doesMore_461 : decode cX10_doesMore 461 = .ok (.iconst 1, 1) := by decide +kernel
theorem dX10_doesMore_462 : decode cX10_doesMore 462 = .ok (.goto 4, 3) := by decide +kernel
theorem dX10_doesMore_465 : decode cX10_doesMore 465 = .ok (.iconst 0, 1) := by decide +kernel
theorem dX10_doesMore_466 : decode cX10_doesMore 466 = .ok (.ireturn, 1) := by decide +kernel
theorem dX10_doesMore_467 : decode cX10_doesMore 467 = .ok (.aload_n 0, 1) := by decide +kernel
theorem dX10_doesMore_468 : decode cX10_doesMore 468 = .ok (.iconst 0, 1) := by decide +kernel
theorem dX10_doesMore_469 : decode cX10_doesMore 469 = .ok (.invokevirtual 158, 3) := by decide +kernel
theorem dX10_doesMore_472 : decode cX10_doesMore 472 = .ok (.ifCond .eq 26, 3) := by decide +kernel
theorem dX10_doesMore_475 : decode cX10_doesMore 475 = .ok (.aload_n 0, 1) := by decide +kernel
theorem dX10_doesMore_476 : decode cX10_doesMore 476 = .ok (.aload_n 0, 1) := by decide +kernel
theorem dX10_doesMore_477 : decode cX10_doesMore 477 = .ok (.getfield 45, 3) := by decide +kernel
theorem dX10_doesMore_480 : decode cX10_doesMore 480 = .ok (.bipush 7, 2) := by decide +kernel
theorem dX10_doesMore_482 : decode cX10_doesMore 482 = .ok (.aload_n 0, 1) := by decide +kernel
theorem dX10_doesMore_483 : decode cX10_doesMore 483 = .ok (.getfield 145, 3) := by decide +kernel
theorem dX10_doesMore_486 : decode cX10_doesMore 486 = .ok (.iadd, 1) := by decide +kernel
theorem dX10_doesMore_487 : decode cX10_doesMore 487 = .ok (.iaload, 1) := by decide +kernel
theorem dX10_doesMore_488 : decode cX10_doesMore 488 = .ok (.invokevirtual 148, 3) := by decide +kernel
theorem dX10_doesMore_491 : decode cX10_doesMore 491 = .ok (.ifCond .eq 7, 3) := by decide +kernel
theorem dX10_doesMore_494 : decode cX10_doesMore 494 = .ok (.iconst 1, 1) := by decide +kernel
theorem dX10_doesMore_495 : decode cX10_doesMore 495 = .ok (.goto 4, 3) := by decide +kernel
theorem dX10_doesMore_498 : decode cX10_doesMore 498 = .ok (.iconst 0, 1) := by decide +kernel
theorem dX10_doesMore_499 : decode cX10_doesMore 499 = .ok (.ireturn, 1) := by decide +kernel
theorem dX10_doesMore_500 : decode cX10_doesMore 500 = .ok (.aload_n 0, 1) := by decide +kernel
theorem dX10_doesMore_501 : decode cX10_doesMore 501 = .ok (.iconst 0, 1) := by decide +kernel
theorem dX10_doesMore_502 : decode cX10_doesMore 502 = .ok (.invokevirtual 158, 3) := by decide +kernel
theorem dX10_doesMore_505 : decode cX10_doesMore 505 = .ok (.ifCond .ne 5, 3) := by decide +kernel
theorem dX10_doesMore_508 : decode cX10_doesMore 508 = .ok (.iconst 0, 1) := by decide +kernel
theorem dX10_doesMore_509 : decode cX10_doesMore 509 = .ok (.ireturn, 1) := by decide +kernel
theorem dX10_doesMore_510 : decode cX10_doesMore 510 = .ok (.aload_n 0, 1) := by decide +kernel
theorem dX10_doesMore_511 : decode cX10_doesMore 511 = .ok (.dup, 1) := by decide +kernel
theorem dX10_doesMore_512 : decode cX10_doesMore 512 = .ok (.getfield 145, 3) := by decide +kernel
theorem dX10_doesMore_515 : decode cX10_doesMore 515 = .ok (.iconst 1, 1) := by decide +kernel
theorem dX10_doesMore_516 : decode cX10_doesMore 516 = .ok (.isub, 1) := by decide +kernel
theorem dX10_doesMore_517 : decode cX10_doesMore 517 = .ok (.putfield 145, 3) := by decide +kernel
theorem dX10_doesMore_520 : decode cX10_doesMore 520 = .ok (.iconst 1, 1) := by decide +kernel
theorem dX10_doesMore_521 : decode cX10_doesMore 521 = .ok (.ireturn, 1) := by decide +kernel
theorem dX10_doesMore_522 : decode cX10_doesMore 522 = .ok (.aload_n 0, 1) := by decide +kernel
theorem dX10_doesMore_523 : decode cX10_doesMore 523 = .ok (.iconst 0, 1) := by decide +kernel
theorem dX10_doesMore_524 : decode cX10_doesMore 524 = .ok (.invokevirtual 158, 3) := by decide +kernel
theorem dX10_doesMore_527 : decode cX10_doesMore 527 = .ok (.ifCond .eq 11, 3) := by decide +kernel
theorem dX10_doesMore_530 : decode cX10_doesMore 530 = .ok (.aload_n 0, 1) := by decide +kernel
theorem dX10_doesMore_531 : decode cX10_doesMore 531 = .ok (.iconst 1, 1) := by decide +kernel
theorem dX10_doesMore_532 : decode cX10_doesMore 532 = .ok (.invokevirtual 158, 3) := by decide +kernel
theorem dX10_doesMore_535 : decode cX10_doesMore 535 = .ok (.ifCond .ne 5, 3) := by decide +kernel
theorem dX10_doesMore_538 : decode cX10_doesMore 538 = .ok (.iconst 0, 1) := by decide +kernel
theorem dX10_doesMore_539 : decode cX10_doesMore 539 = .ok (.ireturn, 1) := by decide +kernel
theorem dX10_doesMore_540 : decode cX10_doesMore 540 = .ok (.aload_n 0, 1) := by decide +kernel
theorem dX10_doesMore_541 : decode cX10_doesMore 541 = .ok (.getfield 45, 3) := by decide +kernel
theorem dX10_doesMore_544 : decode cX10_doesMore 544 = .ok (.bipush 7, 2) := by decide +kernel
theorem dX10_doesMore_546 : decode cX10_doesMore 546 = .ok (.aload_n 0, 1) := by decide +kernel
theorem dX10_doesMore_547 : decode cX10_doesMore 547 = .ok (.getfield 145, 3) := by decide +kernel
theorem dX10_doesMore_550 : decode cX10_doesMore 550 = .ok (.iadd, 1) := by decide +kernel
theorem dX10_doesMore_551 : decode cX10_doesMore 551 = .ok (.iaload, 1) := by decide +kernel
theorem dX10_doesMore_552 : decode cX10_doesMore 552 = .ok (.istore 6, 2) := by decide +kernel
theorem dX10_doesMore_554 : decode cX10_doesMore 554 = .ok (.aload_n 0, 1) := by decide +kernel
theorem dX10_doesMore_555 : decode cX10_doesMore 555 = .ok (.getfield 45, 3) := by decide +kernel
theorem dX10_doesMore_558 : decode cX10_doesMore 558 = .ok (.bipush 6, 2) := by decide +kernel
theorem dX10_doesMore_560 : decode cX10_doesMore 560 = .ok (.aload_n 0, 1) := by decide +kernel
theorem dX10_doesMore_561 : decode cX10_doesMore 561 = .ok (.getfield 145, 3) := by decide +kernel
theorem dX10_doesMore_564 : decode cX10_doesMore 564 = .ok (.iadd, 1) := by decide +kernel
theorem dX10_doesMore_565 : decode cX10_doesMore 565 = .ok (.iaload, 1) := by decide +kernel
theorem dX10_doesMore_566 : decode cX10_doesMore 566 = .ok (.istore 7, 2) := by decide +kernel
theorem dX10_doesMore_568 : decode cX10_doesMore 568 = .ok (.aload_n 0, 1) := by decide +kernel
theorem dX10_doesMore_569 : decode cX10_doesMore 569 = .ok (.getfield 45, 3) := by decide +kernel
theorem dX10_doesMore_572 : decode cX10_doesMore 572 = .ok (.bipush 7, 2) := by decide +kernel
theorem dX10_doesMore_574 : decode cX10_doesMore 574 = .ok (.aload_n 0, 1) := by decide +kernel
theorem dX10_doesMore_575 : decode cX10_doesMore 575 = .ok (.getfield 145, 3) := by decide +kernel
theorem dX10_doesMore_578 : decode cX10_doesMore 578 = .ok (.iadd, 1) := by decide +kernel
theorem dX10_doesMore_579 : decode cX10_doesMore 579 = .ok (.iload 7, 2) := by decide +kernel
theorem dX10_doesMore_581 : decode cX10_doesMore 581 = .ok (.iastore, 1) := by decide +kernel
theorem dX10_doesMore_582 : decode cX10_doesMore 582 = .ok (.aload_n 0, 1) := by decide +kernel
theorem dX10_doesMore_583 : decode cX10_doesMore 583 = .ok (.getfield 45, 3) := by decide +kernel
theorem dX10_doesMore_586 : decode cX10_doesMore 586 = .ok (.bipush 6, 2) := by decide +kernel
theorem dX10_doesMore_588 : decode cX10_doesMore 588 = .ok (.aload_n 0, 1) := by decide +kernel
theorem dX10_doesMore_589 : decode cX10_doesMore 589 = .ok (.getfield 145, 3) := by decide +kernel
theorem dX10_doesMore_592 : decode cX10_doesMore 592 = .ok (.iadd, 1) := by decide +kernel
theorem dX10_doesMore_593 : decode cX10_doesMore 593 = .ok (.iload 6, 2) := by decide +kernel
theorem dX10_doesMore_595 : decode cX10_doesMore 595 = .ok (.iastore, 1) := by decide +kernel
theorem dX10_doesMore_596 : decode cX10_doesMore 596 = .ok (.iconst 1, 1) := by decide +kernel
theorem dX10_doesMore_597 : decode cX10_doesMore 597 = .ok (.ireturn, 1) := by decide +kernel
theorem dX10_doesMore_598 : decode cX10_doesMore 598 = .ok (.lload 4, 2) := by decide +kernel
theorem dX10_doesMore_600 : decode cX10_doesMore 600 = .ok (.lconst 0, 1) := by decide +kernel
theorem dX10_doesMore_601 : decode cX10_doesMore 601 = .ok (.aload_n 0, 1) := by decide +kernel
theorem dX10_doesMore_602 : decode cX10_doesMore 602 = .ok (.getfield 13, 3) := by decide +kernel
theorem dX10_doesMore_605 : decode cX10_doesMore 605 = .ok (.iload_n 1, 1) := by decide +kernel
theorem dX10_doesMore_606 : decode cX10_doesMore 606 = .ok (.iaload, 1) := by decide +kernel
theorem dX10_doesMore_607 : decode cX10_doesMore 607 = .ok (.iconst 1, 1) := by decide +kernel
theorem dX10_doesMore_608 : decode cX10_doesMore 608 = .ok (.isub, 1) := by decide +kernel
theorem dX10_doesMore_609 : decode cX10_doesMore 609 = .ok (.i2l, 1) := by decide +kernel
theorem dX10_doesMore_610 : decode cX10_doesMore 610 = .ok (.invokestatic 79, 3) := by decide +kernel
theorem dX10_doesMore_613 : decode cX10_doesMore 613 = .ok (.ireturn, 1) := by decide +kernel
theorem dX10_doesMore_614 : decode cX10_doesMore 614 = .ok (.lload 4, 2) := by decide +kernel
theorem dX10_doesMore_616 : decode cX10_doesMore 616 = .ok (.lconst 0, 1) := by decide +kernel
theorem dX10_doesMore_617 : decode cX10_doesMore 617 = .ok (.aload_n 0, 1) := by decide +kernel
theorem dX10_doesMore_618 : decode cX10_doesMore 618 = .ok (.getfield 13, 3) := by decide +kernel
theorem dX10_doesMore_621 : decode cX10_doesMore 621 = .ok (.iload_n 1, 1) := by decide +kernel
theorem dX10_doesMore_622 : decode cX10_doesMore 622 = .ok (.iaload, 1) := by decide +kernel
theorem dX10_doesMore_623 : decode cX10_doesMore 623 = .ok (.iconst 1, 1) := by decide +kernel
theorem dX10_doesMore_624 : decode cX10_doesMore 624 = .ok (.isub, 1) := by decide +kernel
theorem dX10_doesMore_625 : decode cX10_doesMore 625 = .ok (.i2l, 1) := by decide +kernel
theorem dX10_doesMore_626 : decode cX10_doesMore 626 = .ok (.invokestatic 79, 3) := by decide +kernel
theorem dX10_doesMore_629 : decode cX10_doesMore 629 = .ok (.ifCond .eq 15, 3) := by decide +kernel
theorem dX10_doesMore_632 : decode cX10_doesMore 632 = .ok (.aload_n 0, 1) := by decide +kernel
theorem dX10_doesMore_633 : decode cX10_doesMore 633 = .ok (.iconst 1, 1) := by decide +kernel
theorem dX10_doesMore_634 : decode cX10_doesMore 634 = .ok (.invokevirtual 170, 3) := by decide +kernel
theorem dX10_doesMore_637 : decode cX10_doesMore 637 = .ok (.ifCond .eq 7, 3) := by decide +kernel
theorem dX10_doesMore_640 : decode cX10_doesMore 640 = .ok (.iconst 1, 1) := by decide +kernel
theorem dX10_doesMore_641 : decode cX10_doesMore 641 = .ok (.goto 4, 3) := by decide +kernel
theorem dX10_doesMore_644 : decode cX10_doesMore 644 = .ok (.iconst 0, 1) := by decide +kernel
theorem dX10_doesMore_645 : decode cX10_doesMore 645 = .ok (.ireturn, 1) := by decide +kernel
theorem dX10_doesMore_646 : decode cX10_doesMore 646 = .ok (.lload 4, 2) := by decide +kernel
theorem dX10_doesMore_648 : decode cX10_doesMore 648 = .ok (.lconst 0, 1) := by decide +kernel
theorem dX10_doesMore_649 : decode cX10_doesMore 649 = .ok (.aload_n 0, 1) := by decide +kernel
theorem dX10_doesMore_650 : decode cX10_doesMore 650 = .ok (.getfield 13, 3) := by decide +kernel
theorem dX10_doesMore_653 : decode cX10_doesMore 653 = .ok (.iload_n 1, 1) := by decide +kernel
theorem dX10_doesMore_654 : decode cX10_doesMore 654 = .ok (.iaload, 1) := by decide +kernel
theorem dX10_doesMore_655 : decode cX10_doesMore 655 = .ok (.iconst 1, 1) := by decide +kernel
theorem dX10_doesMore_656 : decode cX10_doesMore 656 = .ok (.isub, 1) := by decide +kernel
theorem dX10_doesMore_657 : decode cX10_doesMore 657 = .ok (.i2l, 1) := by decide +kernel
theorem dX10_doesMore_658 : decode cX10_doesMore 658 = .ok (.invokestatic 79, 3) := by decide +kernel
theorem dX10_doesMore_661 : decode cX10_doesMore 661 = .ok (.ifCond .eq 16, 3) := by decide +kernel
theorem dX10_doesMore_664 : decode cX10_doesMore 664 = .ok (.aload_n 0, 1) := by decide +kernel
theorem dX10_doesMore_665 : decode cX10_doesMore 665 = .ok (.bipush 10, 2) := by decide +kernel
theorem dX10_doesMore_667 : decode cX10_doesMore 667 = .ok (.invokevirtual 170, 3) := by decide +kernel
theorem dX10_doesMore_670 : decode cX10_doesMore 670 = .ok (.ifCond .eq 7, 3) := by decide +kernel
theorem dX10_doesMore_673 : decode cX10_doesMore 673 = .ok (.iconst 1, 1) := by decide +kernel
theorem dX10_doesMore_674 : decode cX10_doesMore 674 = .ok (.goto 4, 3) := by decide +kernel
theorem dX10_doesMore_677 : decode cX10_doesMore 677 = .ok (.iconst 0, 1) := by decide +kernel
theorem dX10_doesMore_678 : decode cX10_doesMore 678 = .ok (.ireturn, 1) := by decide +kernel
theorem dX10_doesMore_679 : decode cX10_doesMore 679 = .ok (.aload_n 0, 1) := by decide +kernel
theorem dX10_doesMore_680 : decode cX10_doesMore 680 = .ok (.iconst 1, 1) := by decide +kernel
theorem dX10_doesMore_681 : decode cX10_doesMore 681 = .ok (.invokevirtual 170, 3) := by decide +kernel
theorem dX10_doesMore_684 : decode cX10_doesMore 684 = .ok (.ireturn, 1) := by decide +kernel
theorem dX10_doesMore_685 : decode cX10_doesMore 685 = .ok (.lload 4, 2) := by decide +kernel
theorem dX10_doesMore_687 : decode cX10_doesMore 687 = .ok (.lconst 0, 1) := by decide +kernel
theorem dX10_doesMore_688 : decode cX10_doesMore 688 = .ok (.iload_n 1, 1) := by decide +kernel
theorem dX10_doesMore_689 : decode cX10_doesMore 689 = .ok (.iconst 1, 1) := by decide +kernel
theorem dX10_doesMore_690 : decode cX10_doesMore 690 = .ok (.isub, 1) := by decide +kernel
theorem dX10_doesMore_691 : decode cX10_doesMore 691 = .ok (.i2l, 1) := by decide +kernel
theorem dX10_doesMore_692 : decode cX10_doesMore 692 = .ok (.invokestatic 79, 3) := by decide +kernel
theorem dX10_doesMore_695 : decode cX10_doesMore 695 = .ok (.ifCond .ne 5, 3) := by decide +kernel
theorem dX10_doesMore_698 : decode cX10_doesMore 698 = .ok (.iconst 0, 1) := by decide +kernel
theorem dX10_doesMore_699 : decode cX10_doesMore 699 = .ok (.ireturn, 1) := by decide +kernel
theorem dX10_doesMore_700 : decode cX10_doesMore 700 = .ok (.iconst 1, 1) := by decide +kernel
theorem dX10_doesMore_701 : decode cX10_doesMore 701 = .ok (.istore 8, 2) := by decide +kernel
theorem dX10_doesMore_703 : decode cX10_doesMore 703 = .ok (.iconst 0, 1) := by decide +kernel
theorem dX10_doesMore_704 : decode cX10_doesMore 704 = .ok (.istore 9, 2) := by decide +kernel
theorem dX10_doesMore_706 : decode cX10_doesMore 706 = .ok (.iload 9, 2) := by decide +kernel
theorem dX10_doesMore_708 : decode cX10_doesMore 708 = .ok (.aload_n 0, 1) := by decide +kernel
theorem dX10_doesMore_709 : decode cX10_doesMore 709 = .ok (.getfield 7, 3) := by decide +kernel
theorem dX10_doesMore_712 : decode cX10_doesMore 712 = .ok (.lload 4, 2) := by decide +kernel
theorem dX10_doesMore_714 : decode cX10_doesMore 714 = .ok (.l2i, 1) := by decide +kernel
theorem dX10_doesMore_715 : decode cX10_doesMore 715 = .ok (.iaload, 1) := by decide +kernel
theorem dX10_doesMore_716 : decode cX10_doesMore 716 = .ok (.if_icmp .ge 21, 3) := by decide +kernel
theorem dX10_doesMore_719 : decode cX10_doesMore 719 = .ok (.iload 8, 2) := by decide +kernel
theorem dX10_doesMore_721 : decode cX10_doesMore 721 = .ok (.ifCond .eq 16, 3) := by decide +kernel
theorem dX10_doesMore_724 : decode cX10_doesMore 724 = .ok (.aload_n 0, 1) := by decide +kernel
theorem dX10_doesMore_725 : decode cX10_doesMore 725 = .ok (.iconst 1, 1) := by decide +kernel
theorem dX10_doesMore_726 : decode cX10_doesMore 726 = .ok (.invokevirtual 170, 3) := by decide +kernel
theorem dX10_doesMore_729 : decode cX10_doesMore 729 = .ok (.istore 8, 2) := by decide +kernel
theorem dX10_doesMore_731 : decode cX10_doesMore 731 = .ok (.iinc 9 1, 3) := by decide +kernel
theorem dX10_doesMore_734 : decode cX10_doesMore 734 = .ok (.goto (-28), 3) := by decide +kernel
theorem dX10_doesMore_737 : decode cX10_doesMore 737 = .ok (.iload 8, 2) := by decide +kernel
theorem dX10_doesMore_739 : decode cX10_doesMore 739 = .ok (.ifCond .eq 15, 3) := by decide +kernel
theorem dX10_doesMore_742 : decode cX10_doesMore 742 = .ok (.aload_n 0, 1) := by decide +kernel
theorem dX10_doesMore_743 : decode cX10_doesMore 743 = .ok (.iconst 1, 1) := by decide +kernel
theorem dX10_doesMore_744 : decode cX10_doesMore 744 = .ok (.invokevirtual 148, 3) := by decide +kernel
theorem dX10_doesMore_747 : decode cX10_doesMore 747 = .ok (.ifCond .eq 7, 3) := by decide +kernel
theorem dX10_doesMore_750 : decode cX10_doesMore 750 = .ok (.iconst 1, 1) := by decide +kernel
theorem dX10_doesMore_751 : decode cX10_doesMore 751 = .ok (.goto 4, 3) := by decide +kernel
theorem dX10_doesMore_754 : decode cX10_doesMore 754 = .ok (.iconst 0, 1) := by decide +kernel
theorem dX10_doesMore_755 : decode cX10_doesMore 755 = .ok (.ireturn, 1) := by decide +kernel
theorem dX10_doesMore_756 : decode cX10_doesMore 756 = .ok (.iconst 0, 1) := by decide +kernel
theorem dX10_doesMore_757 : decode cX10_doesMore 757 = .ok (.ireturn, 1) := by decide +kernel
theorem dX10_isLast_0 : decode cX10_isLast 0 = .ok (.iload_n 0, 1) := by decide +kernel
theorem dX10_isLast_1 : decode cX10_isLast 1 = .ok (.bipush 29, 2) := by decide +kernel
theorem dX10_isLast_3 : decode cX10_isLast 3 = .ok (.if_icmp .eq 15, 3) := by decide +kernel
theorem dX10_isLast_6 : decode cX10_isLast 6 = .ok (.iload_n 0, 1) := by decide +kernel
theorem dX10_isLast_7 : decode cX10_isLast 7 = .ok (.bipush 32, 2) := by decide +kernel
theorem dX10_isLast_9 : decode cX10_isLast 9 = .ok (.if_icmp .eq 9, 3) := by decide +kernel
theorem dX10_isLast_12 : decode cX10_isLast 12 = .ok (.iload_n 0, 1) := by decide +kernel
theorem dX10_isLast_13 : decode cX10_isLast 13 = .ok (.bipush 34, 2) := by decide +kernel
theorem dX10_isLast_15 : decode cX10_isLast 15 = .ok (.if_icmp .ne 7, 3) := by decide +kernel
theorem dX10_isLast_18 : decode cX10_isLast 18 = .ok (.iconst 1, 1) := by decide +kernel
theorem dX10_isLast_19 : decode cX10_isLast 19 = .ok (.goto 4, 3) := by decide +kernel
theorem dX10_isLast_22 : decode cX10_isLast 22 = .ok (.iconst 0, 1) := by decide +kernel
theorem dX10_isLast_23 : decode cX10_isLast 23 = .ok (.ireturn, 1) := by decide +kernel
theorem dX10_leads_0 : decode cX10_leads 0 = .ok (.iload_n 0, 1) := by decide +kernel
theorem dX10_leads_1 : decode cX10_leads 1 = .ok (.i2l, 1) := by decide +kernel
theorem dX10_leads_2 : decode cX10_leads 2 = .ok (.ldc2_w 184, 3) := by decide +kernel
theorem dX10_leads_5 : decode cX10_leads 5 = .ok (.ldc2_w 186, 3) := by decide +kernel
theorem dX10_leads_8 : decode cX10_leads 8 = .ok (.invokestatic 79, 3) := by decide +kernel
theorem dX10_leads_11 : decode cX10_leads 11 = .ok (.ireturn, 1) := by decide +kernel
theorem dX10_begins_0 : decode cX10_begins 0 = .ok (.aload_n 0, 1) := by decide +kernel
theorem dX10_begins_1 : decode cX10_begins 1 = .ok (.iconst 0, 1) := by decide +kernel
theorem dX10_begins_2 : decode cX10_begins 2 = .ok (.putfield 145, 3) := by decide +kernel
theorem dX10_begins_5 : decode cX10_begins 5 = .ok (.iconst 0, 1) := by decide +kernel
theorem dX10_begins_6 : decode cX10_begins 6 = .ok (.istore_n 2, 1) := by decide +kernel
theorem dX10_begins_7 : decode cX10_begins 7 = .ok (.iload_n 2, 1) := by decide +kernel
theorem dX10_begins_8 : decode cX10_begins 8 = .ok (.bipush 16, 2) := by decide +kernel
theorem dX10_begins_10 : decode cX10_begins 10 = .ok (.if_icmp .ge 30, 3) := by decide +kernel
theorem dX10_begins_13 : decode cX10_begins 13 = .ok (.aload_n 0, 1) := by decide +kernel
theorem dX10_begins_14 : decode cX10_begins 14 = .ok (.getfield 45, 3) := by decide +kernel
theorem dX10_begins_17 : decode cX10_begins 17 = .ok (.iload_n 2, 1) := by decide +kernel
theorem dX10_begins_18 : decode cX10_begins 18 = .ok (.iload_n 2, 1) := by decide +kernel
theorem dX10_begins_19 : decode cX10_begins 19 = .ok (.aload_n 0, 1) := by decide +kernel
theorem dX10_begins_20 : decode cX10_begins 20 = .ok (.getfield 7, 3) := by decide +kernel
theorem dX10_begins_23 : decode cX10_begins 23 = .ok (.iload_n 1, 1) := by decide +kernel
theorem dX10_begins_24 : decode cX10_begins 24 = .ok (.iaload, 1) := by decide +kernel
theorem dX10_begins_25 : decode cX10_begins 25 = .ok (.if_icmp .ge 7, 3) := by decide +kernel
theorem dX10_begins_28 : decode cX10_begins 28 = .ok (.iconst 1, 1) := by decide +kernel
theorem dX10_begins_29 : decode cX10_begins 29 = .ok (.goto 4, 3) := by decide +kernel
theorem dX10_begins_32 : decode cX10_begins 32 = .ok (.iconst 0, 1) := by decide +kernel
theorem dX10_begins_33 : decode cX10_begins 33 = .ok (.iastore, 1) := by decide +kernel
theorem dX10_begins_34 : decode cX10_begins 34 = .ok (.iinc 2 1, 3) := by decide +kernel
theorem dX10_begins_37 : decode cX10_begins 37 = .ok (.goto (-30), 3) := by decide +kernel
theorem dX10_begins_40 : decode cX10_begins 40 = .ok (.iconst 0, 1) := by decide +kernel
theorem dX10_begins_41 : decode cX10_begins 41 = .ok (.istore_n 2, 1) := by decide +kernel
theorem dX10_begins_42 : decode cX10_begins 42 = .ok (.iload_n 2, 1) := by decide +kernel
theorem dX10_begins_43 : decode cX10_begins 43 = .ok (.bipush 40, 2) := by decide +kernel
theorem dX10_begins_45 : decode cX10_begins 45 = .ok (.if_icmp .ge 16, 3) := by decide +kernel
theorem dX10_begins_48 : decode cX10_begins 48 = .ok (.aload_n 0, 1) := by decide +kernel
theorem dX10_begins_49 : decode cX10_begins 49 = .ok (.getfield 39, 3) := by decide +kernel
theorem dX10_begins_52 : decode cX10_begins 52 = .ok (.iload_n 2, 1) := by decide +kernel
theorem dX10_begins_53 : decode cX10_begins 53 = .ok (.iconst (-1), 1) := by decide +kernel
theorem dX10_begins_54 : decode cX10_begins 54 = .ok (.iastore, 1) := by decide +kernel
theorem dX10_begins_55 : decode cX10_begins 55 = .ok (.iinc 2 1, 3) := by decide +kernel
theorem dX10_begins_58 : decode cX10_begins 58 = .ok (.goto (-16), 3) := by decide +kernel
theorem dX10_begins_61 : decode cX10_begins 61 = .ok (.return_, 1) := by decide +kernel
theorem dX10_sees_0 : decode cX10_sees 0 = .ok (.aload_n 0, 1) := by decide +kernel
theorem dX10_sees_1 : decode cX10_sees 1 = .ok (.getfield 39, 3) := by decide +kernel
theorem dX10_sees_4 : decode cX10_sees 4 = .ok (.iload_n 1, 1) := by decide +kernel
theorem dX10_sees_5 : decode cX10_sees 5 = .ok (.aload_n 0, 1) := by decide +kernel
theorem dX10_sees_6 : decode cX10_sees 6 = .ok (.getfield 145, 3) := by decide +kernel
theorem dX10_sees_9 : decode cX10_sees 9 = .ok (.iastore, 1) := by decide +kernel
theorem dX10_sees_10 : decode cX10_sees 10 = .ok (.iconst 0, 1) := by decide +kernel
theorem dX10_sees_11 : decode cX10_sees 11 = .ok (.istore_n 2, 1) := by decide +kernel
theorem dX10_sees_12 : decode cX10_sees 12 = .ok (.iload_n 2, 1) := by decide +kernel
theorem dX10_sees_13 : decode cX10_sees 13 = .ok (.bipush 16, 2) := by decide +kernel
theorem dX10_sees_15 : decode cX10_sees 15 = .ok (.if_icmp .ge 26, 3) := by decide +kernel
theorem dX10_sees_18 : decode cX10_sees 18 = .ok (.aload_n 0, 1) := by decide +kernel
theorem dX10_sees_19 : decode cX10_sees 19 = .ok (.getfield 42, 3) := by decide +kernel
theorem dX10_sees_22 : decode cX10_sees 22 = .ok (.bipush 16, 2) := by decide +kernel
theorem dX10_sees_24 : decode cX10_sees 24 = .ok (.iload_n 1, 1) := by decide +kernel
theorem dX10_sees_25 : decode cX10_sees 25 = .ok (.imul, 1) := by decide +kernel
theorem dX10_sees_26 : decode cX10_sees 26 = .ok (.iload_n 2, 1) := by decide +kernel
theorem dX10_sees_27 : decode cX10_sees 27 = .ok (.iadd, 1) := by decide +kernel
theorem dX10_sees_28 : decode cX10_sees 28 = .ok (.aload_n 0, 1) := by decide +kernel
theorem dX10_sees_29 : decode cX10_sees 29 = .ok (.getfield 45, 3) := by decide +kernel
theorem dX10_sees_32 : decode cX10_sees 32 = .ok (.iload_n 2, 1) := by decide +kernel
theorem dX10_sees_33 : decode cX10_sees 33 = .ok (.iaload, 1) := by decide +kernel
theorem dX10_sees_34 : decode cX10_sees 34 = .ok (.iastore, 1) := by decide +kernel
theorem dX10_sees_35 : decode cX10_sees 35 = .ok (.iinc 2 1, 3) := by decide +kernel
theorem dX10_sees_38 : decode cX10_sees 38 = .ok (.goto (-26), 3) := by decide +kernel
theorem dX10_sees_41 : decode cX10_sees 41 = .ok (.return_, 1) := by decide +kernel
theorem dX10_takes_0 : decode cX10_takes 0 = .ok (.aload_n 0, 1) := by decide +kernel
theorem dX10_takes_1 : decode cX10_takes 1 = .ok (.aload_n 0, 1) := by decide +kernel
theorem dX10_takes_2 : decode cX10_takes 2 = .ok (.getfield 39, 3) := by decide +kernel
theorem dX10_takes_5 : decode cX10_takes 5 = .ok (.iload_n 1, 1) := by decide +kernel
theorem dX10_takes_6 : decode cX10_takes 6 = .ok (.iaload, 1) := by decide +kernel
theorem dX10_takes_7 : decode cX10_takes 7 = .ok (.putfield 145, 3) := by decide +kernel
theorem dX10_takes_10 : decode cX10_takes 10 = .ok (.iconst 0, 1) := by decide +kernel
theorem dX10_takes_11 : decode cX10_takes 11 = .ok (.istore_n 2, 1) := by decide +kernel
theorem dX10_takes_12 : decode cX10_takes 12 = .ok (.iload_n 2, 1) := by decide +kernel
theorem dX10_takes_13 : decode cX10_takes 13 = .ok (.bipush 16, 2) := by decide +kernel
theorem dX10_takes_15 : decode cX10_takes 15 = .ok (.if_icmp .ge 26, 3) := by decide +kernel
theorem dX10_takes_18 : decode cX10_takes 18 = .ok (.aload_n 0, 1) := by decide +kernel
theorem dX10_takes_19 : decode cX10_takes 19 = .ok (.getfield 45, 3) := by decide +kernel
theorem dX10_takes_22 : decode cX10_takes 22 = .ok (.iload_n 2, 1) := by decide +kernel
theorem dX10_takes_23 : decode cX10_takes 23 = .ok (.aload_n 0, 1) := by decide +kernel
theorem dX10_takes_24 : decode cX10_takes 24 = .ok (.getfield 42, 3) := by decide +kernel
theorem dX10_takes_27 : decode cX10_takes 27 = .ok (.bipush 16, 2) := by decide +kernel
theorem dX10_takes_29 : decode cX10_takes 29 = .ok (.iload_n 1, 1) := by decide +kernel
theorem dX10_takes_30 : decode cX10_takes 30 = .ok (.imul, 1) := by decide +kernel
theorem dX10_takes_31 : decode cX10_takes 31 = .ok (.iload_n 2, 1) := by decide +kernel
theorem dX10_takes_32 : decode cX10_takes 32 = .ok (.iadd, 1) := by decide +kernel
theorem dX10_takes_33 : decode cX10_takes 33 = .ok (.iaload, 1) := by decide +kernel
theorem dX10_takes_34 : decode cX10_takes 34 = .ok (.iastore, 1) := by decide +kernel
theorem dX10_takes_35 : decode cX10_takes 35 = .ok (.iinc 2 1, 3) := by decide +kernel
theorem dX10_takes_38 : decode cX10_takes 38 = .ok (.goto (-26), 3) := by decide +kernel
theorem dX10_takes_41 : decode cX10_takes 41 = .ok (.return_, 1) := by decide +kernel
theorem dX10_goesToFrame_0 : decode cX10_goesToFrame 0 = .ok (.bipush 40, 2) := by decide +kernel
theorem dX10_goesToFrame_2 : decode cX10_goesToFrame 2 = .ok (.iload_n 1, 1) := by decide +kernel
theorem dX10_goesToFrame_3 : decode cX10_goesToFrame 3 = .ok (.imul, 1) := by decide +kernel
end
section
theorem dX10_goesToFrame_4 : decode cX10_goesToFrame 4 = .ok (.iload_n 2, 1) := by decide +kernel
theorem dX10_goesToFrame_5 : decode cX10_goesToFrame 5 = .ok (.iadd, 1) := by decide +kernel
theorem dX10_goesToFrame_6 : decode cX10_goesToFrame 6 = .ok (.istore_n 3, 1) := by decide +kernel
theorem dX10_goesToFrame_7 : decode cX10_goesToFrame 7 = .ok (.aload_n 0, 1) := by decide +kernel
theorem dX10_goesToFrame_8 : decode cX10_goesToFrame 8 = .ok (.getfield 29, 3) := by decide +kernel
theorem dX10_goesToFrame_11 : decode cX10_goesToFrame 11 = .ok (.iload_n 3, 1) := by decide +kernel
theorem dX10_goesToFrame_12 : decode cX10_goesToFrame 12 = .ok (.iaload, 1) := by decide +kernel
theorem dX10_goesToFrame_13 : decode cX10_goesToFrame 13 = .ok (.aload_n 0, 1) := by decide +kernel
theorem dX10_goesToFrame_14 : decode cX10_goesToFrame 14 = .ok (.getfield 145, 3) := by decide +kernel
theorem dX10_goesToFrame_17 : decode cX10_goesToFrame 17 = .ok (.if_icmp .eq 5, 3) := by decide +kernel
theorem dX10_goesToFrame_20 : decode cX10_goesToFrame 20 = .ok (.iconst 0, 1) := by decide +kernel
theorem dX10_goesToFrame_21 : decode cX10_goesToFrame 21 = .ok (.ireturn, 1) := by decide +kernel
theorem dX10_goesToFrame_22 : decode cX10_goesToFrame 22 = .ok (.iconst 1, 1) := by decide +kernel
theorem dX10_goesToFrame_23 : decode cX10_goesToFrame 23 = .ok (.istore 4, 2) := by decide +kernel
theorem dX10_goesToFrame_25 : decode cX10_goesToFrame 25 = .ok (.iconst 0, 1) := by decide +kernel
theorem dX10_goesToFrame_26 : decode cX10_goesToFrame 26 = .ok (.istore 5, 2) := by decide +kernel
theorem dX10_goesToFrame_28 : decode cX10_goesToFrame 28 = .ok (.iload 5, 2) := by decide +kernel
theorem dX10_goesToFrame_30 : decode cX10_goesToFrame 30 = .ok (.bipush 8, 2) := by decide +kernel
theorem dX10_goesToFrame_32 : decode cX10_goesToFrame 32 = .ok (.aload_n 0, 1) := by decide +kernel
theorem dX10_goesToFrame_33 : decode cX10_goesToFrame 33 = .ok (.getfield 145, 3) := by decide +kernel
theorem dX10_goesToFrame_36 : decode cX10_goesToFrame 36 = .ok (.iadd, 1) := by decide +kernel
theorem dX10_goesToFrame_37 : decode cX10_goesToFrame 37 = .ok (.if_icmp .ge 38, 3) := by decide +kernel
theorem dX10_goesToFrame_40 : decode cX10_goesToFrame 40 = .ok (.iload 4, 2) := by decide +kernel
theorem dX10_goesToFrame_42 : decode cX10_goesToFrame 42 = .ok (.ifCond .eq 33, 3) := by decide +kernel
theorem dX10_goesToFrame_45 : decode cX10_goesToFrame 45 = .ok (.aload_n 0, 1) := by decide +kernel
theorem dX10_goesToFrame_46 : decode cX10_goesToFrame 46 = .ok (.getfield 45, 3) := by decide +kernel
theorem dX10_goesToFrame_49 : decode cX10_goesToFrame 49 = .ok (.iload 5, 2) := by decide +kernel
theorem dX10_goesToFrame_51 : decode cX10_goesToFrame 51 = .ok (.iaload, 1) := by decide +kernel
theorem dX10_goesToFrame_52 : decode cX10_goesToFrame 52 = .ok (.aload_n 0, 1) := by decide +kernel
theorem dX10_goesToFrame_53 : decode cX10_goesToFrame 53 = .ok (.getfield 32, 3) := by decide +kernel
theorem dX10_goesToFrame_56 : decode cX10_goesToFrame 56 = .ok (.bipush 16, 2) := by decide +kernel
theorem dX10_goesToFrame_58 : decode cX10_goesToFrame 58 = .ok (.iload_n 3, 1) := by decide +kernel
theorem dX10_goesToFrame_59 : decode cX10_goesToFrame 59 = .ok (.imul, 1) := by decide +kernel
theorem dX10_goesToFrame_60 : decode cX10_goesToFrame 60 = .ok (.iload 5, 2) := by decide +kernel
theorem dX10_goesToFrame_62 : decode cX10_goesToFrame 62 = .ok (.iadd, 1) := by decide +kernel
theorem dX10_goesToFrame_63 : decode cX10_goesToFrame 63 = .ok (.iaload, 1) := by decide +kernel
theorem dX10_goesToFrame_64 : decode cX10_goesToFrame 64 = .ok (.invokestatic 125, 3) := by decide +kernel
theorem dX10_goesToFrame_67 : decode cX10_goesToFrame 67 = .ok (.istore 4, 2) := by decide +kernel
theorem dX10_goesToFrame_69 : decode cX10_goesToFrame 69 = .ok (.iinc 5 1, 3) := by decide +kernel
theorem dX10_goesToFrame_72 : decode cX10_goesToFrame 72 = .ok (.goto (-44), 3) := by decide +kernel
theorem dX10_goesToFrame_75 : decode cX10_goesToFrame 75 = .ok (.iload 4, 2) := by decide +kernel
theorem dX10_goesToFrame_77 : decode cX10_goesToFrame 77 = .ok (.ireturn, 1) := by decide +kernel
theorem dX10_handlersFit_0 : decode cX10_handlersFit 0 = .ok (.iconst 1, 1) := by decide +kernel
theorem dX10_handlersFit_1 : decode cX10_handlersFit 1 = .ok (.istore_n 3, 1) := by decide +kernel
theorem dX10_handlersFit_2 : decode cX10_handlersFit 2 = .ok (.iconst 0, 1) := by decide +kernel
theorem dX10_handlersFit_3 : decode cX10_handlersFit 3 = .ok (.istore 4, 2) := by decide +kernel
theorem dX10_handlersFit_5 : decode cX10_handlersFit 5 = .ok (.iload 4, 2) := by decide +kernel
theorem dX10_handlersFit_7 : decode cX10_handlersFit 7 = .ok (.aload_n 0, 1) := by decide +kernel
theorem dX10_handlersFit_8 : decode cX10_handlersFit 8 = .ok (.getfield 23, 3) := by decide +kernel
theorem dX10_handlersFit_11 : decode cX10_handlersFit 11 = .ok (.iload_n 1, 1) := by decide +kernel
theorem dX10_handlersFit_12 : decode cX10_handlersFit 12 = .ok (.iaload, 1) := by decide +kernel
theorem dX10_handlersFit_13 : decode cX10_handlersFit 13 = .ok (.if_icmp .ge 170, 3) := by decide +kernel
theorem dX10_handlersFit_16 : decode cX10_handlersFit 16 = .ok (.iload_n 3, 1) := by decide +kernel
theorem dX10_handlersFit_17 : decode cX10_handlersFit 17 = .ok (.ifCond .eq 166, 3) := by decide +kernel
theorem dX10_handlersFit_20 : decode cX10_handlersFit 20 = .ok (.iconst 4, 1) := by decide +kernel
theorem dX10_handlersFit_21 : decode cX10_handlersFit 21 = .ok (.bipush 6, 2) := by decide +kernel
theorem dX10_handlersFit_23 : decode cX10_handlersFit 23 = .ok (.iload_n 1, 1) := by decide +kernel
theorem dX10_handlersFit_24 : decode cX10_handlersFit 24 = .ok (.imul, 1) := by decide +kernel
theorem dX10_handlersFit_25 : decode cX10_handlersFit 25 = .ok (.iload 4, 2) := by decide +kernel
theorem dX10_handlersFit_27 : decode cX10_handlersFit 27 = .ok (.iadd, 1) := by decide +kernel
theorem dX10_handlersFit_28 : decode cX10_handlersFit 28 = .ok (.imul, 1) := by decide +kernel
theorem dX10_handlersFit_29 : decode cX10_handlersFit 29 = .ok (.istore 5, 2) := by decide +kernel
theorem dX10_handlersFit_31 : decode cX10_handlersFit 31 = .ok (.iload_n 2, 1) := by decide +kernel
theorem dX10_handlersFit_32 : decode cX10_handlersFit 32 = .ok (.i2l, 1) := by decide +kernel
theorem dX10_handlersFit_33 : decode cX10_handlersFit 33 = .ok (.aload_n 0, 1) := by decide +kernel
theorem dX10_handlersFit_34 : decode cX10_handlersFit 34 = .ok (.getfield 26, 3) := by decide +kernel
theorem dX10_handlersFit_37 : decode cX10_handlersFit 37 = .ok (.iload 5, 2) := by decide +kernel
theorem dX10_handlersFit_39 : decode cX10_handlersFit 39 = .ok (.iaload, 1) := by decide +kernel
theorem dX10_handlersFit_40 : decode cX10_handlersFit 40 = .ok (.i2l, 1) := by decide +kernel
theorem dX10_handlersFit_41 : decode cX10_handlersFit 41 = .ok (.aload_n 0, 1) := by decide +kernel
theorem dX10_handlersFit_42 : decode cX10_handlersFit 42 = .ok (.getfield 26, 3) := by decide +kernel
theorem dX10_handlersFit_45 : decode cX10_handlersFit 45 = .ok (.iload 5, 2) := by decide +kernel
theorem dX10_handlersFit_47 : decode cX10_handlersFit 47 = .ok (.iconst 1, 1) := by decide +kernel
theorem dX10_handlersFit_48 : decode cX10_handlersFit 48 = .ok (.iadd, 1) := by decide +kernel
theorem dX10_handlersFit_49 : decode cX10_handlersFit 49 = .ok (.iaload, 1) := by decide +kernel
theorem dX10_handlersFit_50 : decode cX10_handlersFit 50 = .ok (.iconst 1, 1) := by decide +kernel
theorem dX10_handlersFit_51 : decode cX10_handlersFit 51 = .ok (.isub, 1) := by decide +kernel
theorem dX10_handlersFit_52 : decode cX10_handlersFit 52 = .ok (.i2l, 1) := by decide +kernel
theorem dX10_handlersFit_53 : decode cX10_handlersFit 53 = .ok (.invokestatic 79, 3) := by decide +kernel
theorem dX10_handlersFit_56 : decode cX10_handlersFit 56 = .ok (.ifCond .ne 6, 3) := by decide +kernel
theorem dX10_handlersFit_59 : decode cX10_handlersFit 59 = .ok (.goto 118, 3) := by decide +kernel
theorem dX10_handlersFit_62 : decode cX10_handlersFit 62 = .ok (.bipush 40, 2) := by decide +kernel
theorem dX10_handlersFit_64 : decode cX10_handlersFit 64 = .ok (.iload_n 1, 1) := by decide +kernel
theorem dX10_handlersFit_65 : decode cX10_handlersFit 65 = .ok (.imul, 1) := by decide +kernel
theorem dX10_handlersFit_66 : decode cX10_handlersFit 66 = .ok (.aload_n 0, 1) := by decide +kernel
theorem dX10_handlersFit_67 : decode cX10_handlersFit 67 = .ok (.getfield 26, 3) := by decide +kernel
theorem dX10_handlersFit_70 : decode cX10_handlersFit 70 = .ok (.iload 5, 2) := by decide +kernel
theorem dX10_handlersFit_72 : decode cX10_handlersFit 72 = .ok (.iconst 2, 1) := by decide +kernel
theorem dX10_handlersFit_73 : decode cX10_handlersFit 73 = .ok (.iadd, 1) := by decide +kernel
theorem dX10_handlersFit_74 : decode cX10_handlersFit 74 = .ok (.iaload, 1) := by decide +kernel
theorem dX10_handlersFit_75 : decode cX10_handlersFit 75 = .ok (.iadd, 1) := by decide +kernel
theorem dX10_handlersFit_76 : decode cX10_handlersFit 76 = .ok (.istore 6, 2) := by decide +kernel
theorem dX10_handlersFit_78 : decode cX10_handlersFit 78 = .ok (.aload_n 0, 1) := by decide +kernel
theorem dX10_handlersFit_79 : decode cX10_handlersFit 79 = .ok (.getfield 26, 3) := by decide +kernel
theorem dX10_handlersFit_82 : decode cX10_handlersFit 82 = .ok (.iload 5, 2) := by decide +kernel
theorem dX10_handlersFit_84 : decode cX10_handlersFit 84 = .ok (.iconst 2, 1) := by decide +kernel
theorem dX10_handlersFit_85 : decode cX10_handlersFit 85 = .ok (.iadd, 1) := by decide +kernel
theorem dX10_handlersFit_86 : decode cX10_handlersFit 86 = .ok (.iaload, 1) := by decide +kernel
theorem dX10_handlersFit_87 : decode cX10_handlersFit 87 = .ok (.aload_n 0, 1) := by decide +kernel
theorem dX10_handlersFit_88 : decode cX10_handlersFit 88 = .ok (.getfield 13, 3) := by decide +kernel
theorem dX10_handlersFit_91 : decode cX10_handlersFit 91 = .ok (.iload_n 1, 1) := by decide +kernel
theorem dX10_handlersFit_92 : decode cX10_handlersFit 92 = .ok (.iaload, 1) := by decide +kernel
theorem dX10_handlersFit_93 : decode cX10_handlersFit 93 = .ok (.if_icmp .ge 38, 3) := by decide +kernel
theorem dX10_handlersFit_96 : decode cX10_handlersFit 96 = .ok (.aload_n 0, 1) := by decide +kernel
theorem dX10_handlersFit_97 : decode cX10_handlersFit 97 = .ok (.getfield 29, 3) := by decide +kernel
theorem dX10_handlersFit_100 : decode cX10_handlersFit 100 = .ok (.iload 6, 2) := by decide +kernel
theorem dX10_handlersFit_102 : decode cX10_handlersFit 102 = .ok (.iaload, 1) := by decide +kernel
theorem dX10_handlersFit_103 : decode cX10_handlersFit 103 = .ok (.iconst 1, 1) := by decide +kernel
theorem dX10_handlersFit_104 : decode cX10_handlersFit 104 = .ok (.if_icmp .ne 27, 3) := by decide +kernel
theorem dX10_handlersFit_107 : decode cX10_handlersFit 107 = .ok (.iconst 1, 1) := by decide +kernel
theorem dX10_handlersFit_108 : decode cX10_handlersFit 108 = .ok (.aload_n 0, 1) := by decide +kernel
theorem dX10_handlersFit_109 : decode cX10_handlersFit 109 = .ok (.getfield 32, 3) := by decide +kernel
theorem dX10_handlersFit_112 : decode cX10_handlersFit 112 = .ok (.bipush 16, 2) := by decide +kernel
theorem dX10_handlersFit_114 : decode cX10_handlersFit 114 = .ok (.iload 6, 2) := by decide +kernel
theorem dX10_handlersFit_116 : decode cX10_handlersFit 116 = .ok (.imul, 1) := by decide +kernel
theorem dX10_handlersFit_117 : decode cX10_handlersFit 117 = .ok (.bipush 8, 2) := by decide +kernel
theorem dX10_handlersFit_119 : decode cX10_handlersFit 119 = .ok (.iadd, 1) := by decide +kernel
theorem dX10_handlersFit_120 : decode cX10_handlersFit 120 = .ok (.iaload, 1) := by decide +kernel
theorem dX10_handlersFit_121 : decode cX10_handlersFit 121 = .ok (.invokestatic 125, 3) := by decide +kernel
theorem dX10_handlersFit_124 : decode cX10_handlersFit 124 = .ok (.ifCond .eq 7, 3) := by decide +kernel
theorem dX10_handlersFit_127 : decode cX10_handlersFit 127 = .ok (.iconst 1, 1) := by decide +kernel
theorem dX10_handlersFit_128 : decode cX10_handlersFit 128 = .ok (.goto 4, 3) := by decide +kernel
theorem dX10_handlersFit_131 : decode cX10_handlersFit 131 = .ok (.iconst 0, 1) := by decide +kernel
theorem dX10_handlersFit_132 : decode cX10_handlersFit 132 = .ok (.istore_n 3, 1) := by decide +kernel
theorem dX10_handlersFit_133 : decode cX10_handlersFit 133 = .ok (.iconst 0, 1) := by decide +kernel
theorem dX10_handlersFit_134 : decode cX10_handlersFit 134 = .ok (.istore 7, 2) := by decide +kernel
theorem dX10_handlersFit_136 : decode cX10_handlersFit 136 = .ok (.iload 7, 2) := by decide +kernel
theorem dX10_handlersFit_138 : decode cX10_handlersFit 138 = .ok (.bipush 8, 2) := by decide +kernel
theorem dX10_handlersFit_140 : decode cX10_handlersFit 140 = .ok (.if_icmp .ge 37, 3) := by decide +kernel
theorem dX10_handlersFit_143 : decode cX10_handlersFit 143 = .ok (.iload_n 3, 1) := by decide +kernel
theorem dX10_handlersFit_144 : decode cX10_handlersFit 144 = .ok (.ifCond .eq 33, 3) := by decide +kernel
theorem dX10_handlersFit_147 : decode cX10_handlersFit 147 = .ok (.aload_n 0, 1) := by decide +kernel
theorem dX10_handlersFit_148 : decode cX10_handlersFit 148 = .ok (.getfield 45, 3) := by decide +kernel
theorem dX10_handlersFit_151 : decode cX10_handlersFit 151 = .ok (.iload 7, 2) := by decide +kernel
theorem dX10_handlersFit_153 : decode cX10_handlersFit 153 = .ok (.iaload, 1) := by decide +kernel
theorem dX10_handlersFit_154 : decode cX10_handlersFit 154 = .ok (.aload_n 0, 1) := by decide +kernel
theorem dX10_handlersFit_155 : decode cX10_handlersFit 155 = .ok (.getfield 32, 3) := by decide +kernel
theorem dX10_handlersFit_158 : decode cX10_handlersFit 158 = .ok (.bipush 16, 2) := by decide +kernel
theorem dX10_handlersFit_160 : decode cX10_handlersFit 160 = .ok (.iload 6, 2) := by decide +kernel
theorem dX10_handlersFit_162 : decode cX10_handlersFit 162 = .ok (.imul, 1) := by decide +kernel
theorem dX10_handlersFit_163 : decode cX10_handlersFit 163 = .ok (.iload 7, 2) := by decide +kernel
theorem dX10_handlersFit_165 : decode cX10_handlersFit 165 = .ok (.iadd, 1) := by decide +kernel
theorem dX10_handlersFit_166 : decode cX10_handlersFit 166 = .ok (.iaload, 1) := by decide +kernel
theorem dX10_handlersFit_167 : decode cX10_handlersFit 167 = .ok (.invokestatic 125, 3) := by decide +kernel
theorem dX10_handlersFit_170 : decode cX10_handlersFit 170 = .ok (.istore_n 3, 1) := by decide +kernel
theorem dX10_handlersFit_171 : decode cX10_handlersFit 171 = .ok (.iinc 7 1, 3) := by decide +kernel
theorem dX10_handlersFit_174 : decode cX10_handlersFit 174 = .ok (.goto (-38), 3) := by decide +kernel
theorem dX10_handlersFit_177 : decode cX10_handlersFit 177 = .ok (.iinc 4 1, 3) := by decide +kernel
theorem dX10_handlersFit_180 : decode cX10_handlersFit 180 = .ok (.goto (-175), 3) := by decide +kernel
theorem dX10_handlersFit_183 : decode cX10_handlersFit 183 = .ok (.iload_n 3, 1) := by decide +kernel
theorem dX10_handlersFit_184 : decode cX10_handlersFit 184 = .ok (.ireturn, 1) := by decide +kernel
theorem dX10_wrongByFrames_0 : decode cX10_wrongByFrames 0 = .ok (.aload_n 0, 1) := by decide +kernel
theorem dX10_wrongByFrames_1 : decode cX10_wrongByFrames 1 = .ok (.iload_n 1, 1) := by decide +kernel
theorem dX10_wrongByFrames_2 : decode cX10_wrongByFrames 2 = .ok (.invokevirtual 188, 3) := by decide +kernel
theorem dX10_wrongByFrames_5 : decode cX10_wrongByFrames 5 = .ok (.iconst 1, 1) := by decide +kernel
theorem dX10_wrongByFrames_6 : decode cX10_wrongByFrames 6 = .ok (.istore_n 2, 1) := by decide +kernel
theorem dX10_wrongByFrames_7 : decode cX10_wrongByFrames 7 = .ok (.iconst 0, 1) := by decide +kernel
theorem dX10_wrongByFrames_8 : decode cX10_wrongByFrames 8 = .ok (.istore_n 3, 1) := by decide +kernel
theorem dX10_wrongByFrames_9 : decode cX10_wrongByFrames 9 = .ok (.iload_n 3, 1) := by decide +kernel
theorem dX10_wrongByFrames_10 : decode cX10_wrongByFrames 10 = .ok (.aload_n 0, 1) := by decide +kernel
theorem dX10_wrongByFrames_11 : decode cX10_wrongByFrames 11 = .ok (.getfield 13, 3) := by decide +kernel
theorem dX10_wrongByFrames_14 : decode cX10_wrongByFrames 14 = .ok (.iload_n 1, 1) := by decide +kernel
theorem dX10_wrongByFrames_15 : decode cX10_wrongByFrames 15 = .ok (.iaload, 1) := by decide +kernel
theorem dX10_wrongByFrames_16 : decode cX10_wrongByFrames 16 = .ok (.if_icmp .ge 173, 3) := by decide +kernel
theorem dX10_wrongByFrames_19 : decode cX10_wrongByFrames 19 = .ok (.bipush 40, 2) := by decide +kernel
theorem dX10_wrongByFrames_21 : decode cX10_wrongByFrames 21 = .ok (.iload_n 1, 1) := by decide +kernel
theorem dX10_wrongByFrames_22 : decode cX10_wrongByFrames 22 = .ok (.imul, 1) := by decide +kernel
theorem dX10_wrongByFrames_23 : decode cX10_wrongByFrames 23 = .ok (.iload_n 3, 1) := by decide +kernel
theorem dX10_wrongByFrames_24 : decode cX10_wrongByFrames 24 = .ok (.iadd, 1) := by decide +kernel
theorem dX10_wrongByFrames_25 : decode cX10_wrongByFrames 25 = .ok (.istore 4, 2) := by decide +kernel
theorem dX10_wrongByFrames_27 : decode cX10_wrongByFrames 27 = .ok (.aload_n 0, 1) := by decide +kernel
theorem dX10_wrongByFrames_28 : decode cX10_wrongByFrames 28 = .ok (.getfield 29, 3) := by decide +kernel
theorem dX10_wrongByFrames_31 : decode cX10_wrongByFrames 31 = .ok (.iload 4, 2) := by decide +kernel
theorem dX10_wrongByFrames_33 : decode cX10_wrongByFrames 33 = .ok (.iaload, 1) := by decide +kernel
theorem dX10_wrongByFrames_34 : decode cX10_wrongByFrames 34 = .ok (.ifCond .lt 68, 3) := by decide +kernel
theorem dX10_wrongByFrames_37 : decode cX10_wrongByFrames 37 = .ok (.iload_n 2, 1) := by decide +kernel
theorem dX10_wrongByFrames_38 : decode cX10_wrongByFrames 38 = .ok (.ifCond .eq 14, 3) := by decide +kernel
theorem dX10_wrongByFrames_41 : decode cX10_wrongByFrames 41 = .ok (.aload_n 0, 1) := by decide +kernel
theorem dX10_wrongByFrames_42 : decode cX10_wrongByFrames 42 = .ok (.iload_n 1, 1) := by decide +kernel
theorem dX10_wrongByFrames_43 : decode cX10_wrongByFrames 43 = .ok (.iload_n 3, 1) := by decide +kernel
theorem dX10_wrongByFrames_44 : decode cX10_wrongByFrames 44 = .ok (.invokevirtual 191, 3) := by decide +kernel
theorem dX10_wrongByFrames_47 : decode cX10_wrongByFrames 47 = .ok (.ifCond .ne 5, 3) := by decide +kernel
theorem dX10_wrongByFrames_50 : decode cX10_wrongByFrames 50 = .ok (.iload_n 3, 1) := by decide +kernel
theorem dX10_wrongByFrames_51 : decode cX10_wrongByFrames 51 = .ok (.ireturn, 1) := by decide +kernel
theorem dX10_wrongByFrames_52 : decode cX10_wrongByFrames 52 = .ok (.aload_n 0, 1) := by decide +kernel
theorem dX10_wrongByFrames_53 : decode cX10_wrongByFrames 53 = .ok (.aload_n 0, 1) := by decide +kernel
theorem dX10_wrongByFrames_54 : decode cX10_wrongByFrames 54 = .ok (.getfield 29, 3) := by decide +kernel
theorem dX10_wrongByFrames_57 : decode cX10_wrongByFrames 57 = .ok (.iload 4, 2) := by decide +kernel
theorem dX10_wrongByFrames_59 : decode cX10_wrongByFrames 59 = .ok (.iaload, 1) := by decide +kernel
theorem dX10_wrongByFrames_60 : decode cX10_wrongByFrames 60 = .ok (.putfield 145, 3) := by decide +kernel
theorem dX10_wrongByFrames_63 : decode cX10_wrongByFrames 63 = .ok (.iconst 0, 1) := by decide +kernel
theorem dX10_wrongByFrames_64 : decode cX10_wrongByFrames 64 = .ok (.istore 5, 2) := by decide +kernel
theorem dX10_wrongByFrames_66 : decode cX10_wrongByFrames 66 = .ok (.iload 5, 2) := by decide +kernel
theorem dX10_wrongByFrames_68 : decode cX10_wrongByFrames 68 = .ok (.bipush 16, 2) := by decide +kernel
theorem dX10_wrongByFrames_70 : decode cX10_wrongByFrames 70 = .ok (.if_icmp .ge 29, 3) := by decide +kernel
theorem dX10_wrongByFrames_73 : decode cX10_wrongByFrames 73 = .ok (.aload_n 0, 1) := by decide +kernel
theorem dX10_wrongByFrames_74 : decode cX10_wrongByFrames 74 = .ok (.getfield 45, 3) := by decide +kernel
theorem dX10_wrongByFrames_77 : decode cX10_wrongByFrames 77 = .ok (.iload 5, 2) := by decide +kernel
theorem dX10_wrongByFrames_79 : decode cX10_wrongByFrames 79 = .ok (.aload_n 0, 1) := by decide +kernel
theorem dX10_wrongByFrames_80 : decode cX10_wrongByFrames 80 = .ok (.getfield 32, 3) := by decide +kernel
theorem dX10_wrongByFrames_83 : decode cX10_wrongByFrames 83 = .ok (.bipush 16, 2) := by decide +kernel
theorem dX10_wrongByFrames_85 : decode cX10_wrongByFrames 85 = .ok (.iload 4, 2) := by decide +kernel
theorem dX10_wrongByFrames_87 : decode cX10_wrongByFrames 87 = .ok (.imul, 1) := by decide +kernel
theorem dX10_wrongByFrames_88 : decode cX10_wrongByFrames 88 = .ok (.iload 5, 2) := by decide +kernel
theorem dX10_wrongByFrames_90 : decode cX10_wrongByFrames 90 = .ok (.iadd, 1) := by decide +kernel
theorem dX10_wrongByFrames_91 : decode cX10_wrongByFrames 91 = .ok (.iaload, 1) := by decide +kernel
theorem dX10_wrongByFrames_92 : decode cX10_wrongByFrames 92 = .ok (.iastore, 1) := by decide +kernel
theorem dX10_wrongByFrames_93 : decode cX10_wrongByFrames 93 = .ok (.iinc 5 1, 3) := by decide +kernel
theorem dX10_wrongByFrames_96 : decode cX10_wrongByFrames 96 = .ok (.goto (-30), 3) := by decide +kernel
theorem dX10_wrongByFrames_99 : decode cX10_wrongByFrames 99 = .ok (.goto 9, 3) := by decide +kernel
theorem dX10_wrongByFrames_102 : decode cX10_wrongByFrames 102 = .ok (.iload_n 2, 1) := by decide +kernel
theorem dX10_wrongByFrames_103 : decode cX10_wrongByFrames 103 = .ok (.ifCond .ne 5, 3) := by decide +kernel
theorem dX10_wrongByFrames_106 : decode cX10_wrongByFrames 106 = .ok (.iload_n 3, 1) := by decide +kernel
theorem dX10_wrongByFrames_107 : decode cX10_wrongByFrames 107 = .ok (.ireturn, 1) := by decide +kernel
theorem dX10_wrongByFrames_108 : decode cX10_wrongByFrames 108 = .ok (.aload_n 0, 1) := by decide +kernel
theorem dX10_wrongByFrames_109 : decode cX10_wrongByFrames 109 = .ok (.iload_n 3, 1) := by decide +kernel
theorem dX10_wrongByFrames_110 : decode cX10_wrongByFrames 110 = .ok (.invokevirtual 194, 3) := by decide +kernel
theorem dX10_wrongByFrames_113 : decode cX10_wrongByFrames 113 = .ok (.aload_n 0, 1) := by decide +kernel
theorem dX10_wrongByFrames_114 : decode cX10_wrongByFrames 114 = .ok (.iload_n 1, 1) := by decide +kernel
theorem dX10_wrongByFrames_115 : decode cX10_wrongByFrames 115 = .ok (.iload_n 3, 1) := by decide +kernel
theorem dX10_wrongByFrames_116 : decode cX10_wrongByFrames 116 = .ok (.invokevirtual 197, 3) := by decide +kernel
theorem dX10_wrongByFrames_119 : decode cX10_wrongByFrames 119 = .ok (.ifCond .eq 12, 3) := by decide +kernel
theorem dX10_wrongByFrames_122 : decode cX10_wrongByFrames 122 = .ok (.aload_n 0, 1) := by decide +kernel
theorem dX10_wrongByFrames_123 : decode cX10_wrongByFrames 123 = .ok (.iload_n 1, 1) := by decide +kernel
theorem dX10_wrongByFrames_124 : decode cX10_wrongByFrames 124 = .ok (.iload_n 3, 1) := by decide +kernel
theorem dX10_wrongByFrames_125 : decode cX10_wrongByFrames 125 = .ok (.invokevirtual 200, 3) := by decide +kernel
theorem dX10_wrongByFrames_128 : decode cX10_wrongByFrames 128 = .ok (.ifCond .ne 5, 3) := by decide +kernel
theorem dX10_wrongByFrames_131 : decode cX10_wrongByFrames 131 = .ok (.iload_n 3, 1) := by decide +kernel
theorem dX10_wrongByFrames_132 : decode cX10_wrongByFrames 132 = .ok (.ireturn, 1) := by decide +kernel
theorem dX10_wrongByFrames_133 : decode cX10_wrongByFrames 133 = .ok (.aload_n 0, 1) := by decide +kernel
theorem dX10_wrongByFrames_134 : decode cX10_wrongByFrames 134 = .ok (.getfield 16, 3) := by decide +kernel
theorem dX10_wrongByFrames_137 : decode cX10_wrongByFrames 137 = .ok (.iload 4, 2) := by decide +kernel
theorem dX10_wrongByFrames_139 : decode cX10_wrongByFrames 139 = .ok (.iaload, 1) := by decide +kernel
theorem dX10_wrongByFrames_140 : decode cX10_wrongByFrames 140 = .ok (.invokestatic 203, 3) := by decide +kernel
theorem dX10_wrongByFrames_143 : decode cX10_wrongByFrames 143 = .ok (.ifCond .eq 21, 3) := by decide +kernel
theorem dX10_wrongByFrames_146 : decode cX10_wrongByFrames 146 = .ok (.aload_n 0, 1) := by decide +kernel
theorem dX10_wrongByFrames_147 : decode cX10_wrongByFrames 147 = .ok (.iload_n 1, 1) := by decide +kernel
theorem dX10_wrongByFrames_148 : decode cX10_wrongByFrames 148 = .ok (.aload_n 0, 1) := by decide +kernel
theorem dX10_wrongByFrames_149 : decode cX10_wrongByFrames 149 = .ok (.getfield 19, 3) := by decide +kernel
theorem dX10_wrongByFrames_152 : decode cX10_wrongByFrames 152 = .ok (.iload 4, 2) := by decide +kernel
theorem dX10_wrongByFrames_154 : decode cX10_wrongByFrames 154 = .ok (.laload, 1) := by decide +kernel
theorem dX10_wrongByFrames_155 : decode cX10_wrongByFrames 155 = .ok (.l2i, 1) := by decide +kernel
theorem dX10_wrongByFrames_156 : decode cX10_wrongByFrames 156 = .ok (.invokevirtual 191, 3) := by decide +kernel
theorem dX10_wrongByFrames_159 : decode cX10_wrongByFrames 159 = .ok (.ifCond .ne 5, 3) := by decide +kernel
theorem dX10_wrongByFrames_162 : decode cX10_wrongByFrames 162 = .ok (.iload_n 3, 1) := by decide +kernel
theorem dX10_wrongByFrames_163 : decode cX10_wrongByFrames 163 = .ok (.ireturn, 1) := by decide +kernel
theorem dX10_wrongByFrames_164 : decode cX10_wrongByFrames 164 = .ok (.aload_n 0, 1) := by decide +kernel
theorem dX10_wrongByFrames_165 : decode cX10_wrongByFrames 165 = .ok (.getfield 16, 3) := by decide +kernel
theorem dX10_wrongByFrames_168 : decode cX10_wrongByFrames 168 = .ok (.iload 4, 2) := by decide +kernel
theorem dX10_wrongByFrames_170 : decode cX10_wrongByFrames 170 = .ok (.iaload, 1) := by decide +kernel
theorem dX10_wrongByFrames_171 : decode cX10_wrongByFrames 171 = .ok (.invokestatic 206, 3) := by decide +kernel
theorem dX10_wrongByFrames_174 : decode cX10_wrongByFrames 174 = .ok (.ifCond .ne 7, 3) := by decide +kernel
theorem dX10_wrongByFrames_177 : decode cX10_wrongByFrames 177 = .ok (.iconst 1, 1) := by decide +kernel
theorem dX10_wrongByFrames_178 : decode cX10_wrongByFrames 178 = .ok (.goto 4, 3) := by decide +kernel
theorem dX10_wrongByFrames_181 : decode cX10_wrongByFrames 181 = .ok (.iconst 0, 1) := by decide +kernel
theorem dX10_wrongByFrames_182 : decode cX10_wrongByFrames 182 = .ok (.istore_n 2, 1) := by decide +kernel
theorem dX10_wrongByFrames_183 : decode cX10_wrongByFrames 183 = .ok (.iinc 3 1, 3) := by decide +kernel
theorem dX10_wrongByFrames_186 : decode cX10_wrongByFrames 186 = .ok (.goto (-177), 3) := by decide +kernel
theorem dX10_wrongByFrames_189 : decode cX10_wrongByFrames 189 = .ok (.iload_n 2, 1) := by decide +kernel
theorem dX10_wrongByFrames_190 : decode cX10_wrongByFrames 190 = .ok (.ifCond .eq 12, 3) := by decide +kernel
theorem dX10_wrongByFrames_193 : decode cX10_wrongByFrames 193 = .ok (.aload_n 0, 1) := by decide +kernel
theorem dX10_wrongByFrames_194 : decode cX10_wrongByFrames 194 = .ok (.getfield 13, 3) := by decide +kernel
theorem dX10_wrongByFrames_197 : decode cX10_wrongByFrames 197 = .ok (.iload_n 1, 1) := by decide +kernel
theorem dX10_wrongByFrames_198 : decode cX10_wrongByFrames 198 = .ok (.iaload, 1) := by decide +kernel
theorem dX10_wrongByFrames_199 : decode cX10_wrongByFrames 199 = .ok (.goto 4, 3) := by decide +kernel
theorem dX10_wrongByFrames_202 : decode cX10_wrongByFrames 202 = .ok (.iconst (-1), 1) := by decide +kernel
theorem dX10_wrongByFrames_203 : decode cX10_wrongByFrames 203 = .ok (.ireturn, 1) := by decide +kernel
theorem dX10_judge_0 : decode cX10_judge 0 = .ok (.aload_n 0, 1) := by decide +kernel
theorem dX10_judge_1 : decode cX10_judge 1 = .ok (.iload_n 1, 1) := by decide +kernel
theorem dX10_judge_2 : decode cX10_judge 2 = .ok (.invokevirtual 130, 3) := by decide +kernel
theorem dX10_judge_5 : decode cX10_judge 5 = .ok (.ifCond .ne 5, 3) := by decide +kernel
theorem dX10_judge_8 : decode cX10_judge 8 = .ok (.iconst (-1), 1) := by decide +kernel
theorem dX10_judge_9 : decode cX10_judge 9 = .ok (.ireturn, 1) := by decide +kernel
theorem dX10_judge_10 : decode cX10_judge 10 = .ok (.aload_n 0, 1) := by decide +kernel
theorem dX10_judge_11 : decode cX10_judge 11 = .ok (.iload_n 1, 1) := by decide +kernel
theorem dX10_judge_12 : decode cX10_judge 12 = .ok (.invokevirtual 209, 3) := by decide +kernel
theorem dX10_judge_15 : decode cX10_judge 15 = .ok (.istore_n 2, 1) := by decide +kernel
theorem dX10_judge_16 : decode cX10_judge 16 = .ok (.aload_n 0, 1) := by decide +kernel
theorem dX10_judge_17 : decode cX10_judge 17 = .ok (.getfield 35, 3) := by decide +kernel
theorem dX10_judge_20 : decode cX10_judge 20 = .ok (.iload_n 1, 1) := by decide +kernel
theorem dX10_judge_21 : decode cX10_judge 21 = .ok (.iload_n 2, 1) := by decide +kernel
theorem dX10_judge_22 : decode cX10_judge 22 = .ok (.ifCond .ge 7, 3) := by decide +kernel
theorem dX10_judge_25 : decode cX10_judge 25 = .ok (.iconst 1, 1) := by decide +kernel
theorem dX10_judge_26 : decode cX10_judge 26 = .ok (.goto 4, 3) := by decide +kernel
theorem dX10_judge_29 : decode cX10_judge 29 = .ok (.iconst 0, 1) := by decide +kernel
theorem dX10_judge_30 : decode cX10_judge 30 = .ok (.bastore, 1) := by decide +kernel
theorem dX10_judge_31 : decode cX10_judge 31 = .ok (.iload_n 2, 1) := by decide +kernel
theorem dX10_judge_32 : decode cX10_judge 32 = .ok (.ifCond .ge 7, 3) := by decide +kernel
theorem dX10_judge_35 : decode cX10_judge 35 = .ok (.iconst 0, 1) := by decide +kernel
theorem dX10_judge_36 : decode cX10_judge 36 = .ok (.goto 6, 3) := by decide +kernel
theorem dX10_judge_39 : decode cX10_judge 39 = .ok (.iconst 1, 1) := by decide +kernel
theorem dX10_judge_40 : decode cX10_judge 40 = .ok (.iload_n 2, 1) := by decide +kernel
theorem dX10_judge_41 : decode cX10_judge 41 = .ok (.iadd, 1) := by decide +kernel
theorem dX10_judge_42 : decode cX10_judge 42 = .ok (.ireturn, 1) := by decide +kernel
theorem dX10_comesTo_0 : decode cX10_comesTo 0 = .ok (.iload_n 2, 1) := by decide +kernel
theorem dX10_comesTo_1 : decode cX10_comesTo 1 = .ok (.i2l, 1) := by decide +kernel
theorem dX10_comesTo_2 : decode cX10_comesTo 2 = .ok (.lconst 0, 1) := by decide +kernel
theorem dX10_comesTo_3 : decode cX10_comesTo 3 = .ok (.aload_n 0, 1) := by decide +kernel
theorem dX10_comesTo_4 : decode cX10_comesTo 4 = .ok (.getfield 13, 3) := by decide +kernel
theorem dX10_comesTo_7 : decode cX10_comesTo 7 = .ok (.iload_n 1, 1) := by decide +kernel
theorem dX10_comesTo_8 : decode cX10_comesTo 8 = .ok (.iaload, 1) := by decide +kernel
theorem dX10_comesTo_9 : decode cX10_comesTo 9 = .ok (.iconst 1, 1) := by decide +kernel
theorem dX10_comesTo_10 : decode cX10_comesTo 10 = .ok (.isub, 1) := by decide +kernel
theorem dX10_comesTo_11 : decode cX10_comesTo 11 = .ok (.i2l, 1) := by decide +kernel
theorem dX10_comesTo_12 : decode cX10_comesTo 12 = .ok (.invokestatic 79, 3) := by decide +kernel
theorem dX10_comesTo_15 : decode cX10_comesTo 15 = .ok (.ifCond .ne 5, 3) := by decide +kernel
theorem dX10_comesTo_18 : decode cX10_comesTo 18 = .ok (.iconst 0, 1) := by decide +kernel
theorem dX10_comesTo_19 : decode cX10_comesTo 19 = .ok (.ireturn, 1) := by decide +kernel
theorem dX10_comesTo_20 : decode cX10_comesTo 20 = .ok (.aload_n 0, 1) := by decide +kernel
theorem dX10_comesTo_21 : decode cX10_comesTo 21 = .ok (.getfield 39, 3) := by decide +kernel
theorem dX10_comesTo_24 : decode cX10_comesTo 24 = .ok (.iload_n 2, 1) := by decide +kernel
theorem dX10_comesTo_25 : decode cX10_comesTo 25 = .ok (.iaload, 1) := by decide +kernel
theorem dX10_comesTo_26 : decode cX10_comesTo 26 = .ok (.ifCond .ge 15, 3) := by decide +kernel
theorem dX10_comesTo_29 : decode cX10_comesTo 29 = .ok (.aload_n 0, 1) := by decide +kernel
theorem dX10_comesTo_30 : decode cX10_comesTo 30 = .ok (.iload_n 2, 1) := by decide +kernel
theorem dX10_comesTo_31 : decode cX10_comesTo 31 = .ok (.invokevirtual 194, 3) := by decide +kernel
theorem dX10_comesTo_34 : decode cX10_comesTo 34 = .ok (.aload_n 0, 1) := by decide +kernel
theorem dX10_comesTo_35 : decode cX10_comesTo 35 = .ok (.iconst 1, 1) := by decide +kernel
theorem dX10_comesTo_36 : decode cX10_comesTo 36 = .ok (.putfield 212, 3) := by decide +kernel
theorem dX10_comesTo_39 : decode cX10_comesTo 39 = .ok (.iconst 1, 1) := by decide +kernel
theorem dX10_comesTo_40 : decode cX10_comesTo 40 = .ok (.ireturn, 1) := by decide +kernel
theorem dX10_comesTo_41 : decode cX10_comesTo 41 = .ok (.aload_n 0, 1) := by decide +kernel
theorem dX10_comesTo_42 : decode cX10_comesTo 42 = .ok (.getfield 39, 3) := by decide +kernel
theorem dX10_comesTo_45 : decode cX10_comesTo 45 = .ok (.iload_n 2, 1) := by decide +kernel
theorem dX10_comesTo_46 : decode cX10_comesTo 46 = .ok (.iaload, 1) := by decide +kernel
theorem dX10_comesTo_47 : decode cX10_comesTo 47 = .ok (.aload_n 0, 1) := by decide +kernel
theorem dX10_comesTo_48 : decode cX10_comesTo 48 = .ok (.getfield 145, 3) := by decide +kernel
theorem dX10_comesTo_51 : decode cX10_comesTo 51 = .ok (.if_icmp .eq 5, 3) := by decide +kernel
theorem dX10_comesTo_54 : decode cX10_comesTo 54 = .ok (.iconst 0, 1) := by decide +kernel
theorem dX10_comesTo_55 : decode cX10_comesTo 55 = .ok (.ireturn, 1) := by decide +kernel
theorem dX10_comesTo_56 : decode cX10_comesTo 56 = .ok (.iconst 0, 1) := by decide +kernel
theorem dX10_comesTo_57 : decode cX10_comesTo 57 = .ok (.istore_n 3, 1) := by decide +kernel
theorem dX10_comesTo_58 : decode cX10_comesTo 58 = .ok (.iload_n 3, 1) := by decide +kernel
theorem dX10_comesTo_59 : decode cX10_comesTo 59 = .ok (.bipush 8, 2) := by decide +kernel
theorem dX10_comesTo_61 : decode cX10_comesTo 61 = .ok (.aload_n 0, 1) := by decide +kernel
theorem dX10_comesTo_62 : decode cX10_comesTo 62 = .ok (.getfield 145, 3) := by decide +kernel
theorem dX10_comesTo_65 : decode cX10_comesTo 65 = .ok (.iadd, 1) := by decide +kernel
theorem dX10_comesTo_66 : decode cX10_comesTo 66 = .ok (.if_icmp .ge 74, 3) := by decide +kernel
theorem dX10_comesTo_69 : decode cX10_comesTo 69 = .ok (.aload_n 0, 1) := by decide +kernel
theorem dX10_comesTo_70 : decode cX10_comesTo 70 = .ok (.getfield 42, 3) := by decide +kernel
theorem dX10_comesTo_73 : decode cX10_comesTo 73 = .ok (.bipush 16, 2) := by decide +kernel
theorem dX10_comesTo_75 : decode cX10_comesTo 75 = .ok (.iload_n 2, 1) := by decide +kernel
theorem dX10_comesTo_76 : decode cX10_comesTo 76 = .ok (.imul, 1) := by decide +kernel
theorem dX10_comesTo_77 : decode cX10_comesTo 77 = .ok (.iload_n 3, 1) := by decide +kernel
theorem dX10_comesTo_78 : decode cX10_comesTo 78 = .ok (.iadd, 1) := by decide +kernel
theorem dX10_comesTo_79 : decode cX10_comesTo 79 = .ok (.iaload, 1) := by decide +kernel
theorem dX10_comesTo_80 : decode cX10_comesTo 80 = .ok (.aload_n 0, 1) := by decide +kernel
theorem dX10_comesTo_81 : decode cX10_comesTo 81 = .ok (.getfield 45, 3) := by decide +kernel
theorem dX10_comesTo_84 : decode cX10_comesTo 84 = .ok (.iload_n 3, 1) := by decide +kernel
theorem dX10_comesTo_85 : decode cX10_comesTo 85 = .ok (.iaload, 1) := by decide +kernel
theorem dX10_comesTo_86 : decode cX10_comesTo 86 = .ok (.invokestatic 122, 3) := by decide +kernel
theorem dX10_comesTo_89 : decode cX10_comesTo 89 = .ok (.istore 4, 2) := by decide +kernel
theorem dX10_comesTo_91 : decode cX10_comesTo 91 = .ok (.aload_n 0, 1) := by decide +kernel
theorem dX10_comesTo_92 : decode cX10_comesTo 92 = .ok (.dup, 1) := by decide +kernel
theorem dX10_comesTo_93 : decode cX10_comesTo 93 = .ok (.getfield 212, 3) := by decide +kernel
theorem dX10_comesTo_96 : decode cX10_comesTo 96 = .ok (.iload 4, 2) := by decide +kernel
theorem dX10_comesTo_98 : decode cX10_comesTo 98 = .ok (.aload_n 0, 1) := by decide +kernel
theorem dX10_comesTo_99 : decode cX10_comesTo 99 = .ok (.getfield 42, 3) := by decide +kernel
theorem dX10_comesTo_102 : decode cX10_comesTo 102 = .ok (.bipush 16, 2) := by decide +kernel
theorem dX10_comesTo_104 : decode cX10_comesTo 104 = .ok (.iload_n 2, 1) := by decide +kernel
theorem dX10_comesTo_105 : decode cX10_comesTo 105 = .ok (.imul, 1) := by decide +kernel
theorem dX10_comesTo_106 : decode cX10_comesTo 106 = .ok (.iload_n 3, 1) := by decide +kernel
theorem dX10_comesTo_107 : decode cX10_comesTo 107 = .ok (.iadd, 1) := by decide +kernel
theorem dX10_comesTo_108 : decode cX10_comesTo 108 = .ok (.iaload, 1) := by decide +kernel
theorem dX10_comesTo_109 : decode cX10_comesTo 109 = .ok (.if_icmp .eq 7, 3) := by decide +kernel
theorem dX10_comesTo_112 : decode cX10_comesTo 112 = .ok (.iconst 1, 1) := by decide +kernel
theorem dX10_comesTo_113 : decode cX10_comesTo 113 = .ok (.goto 4, 3) := by decide +kernel
theorem dX10_comesTo_116 : decode cX10_comesTo 116 = .ok (.iconst 0, 1) := by decide +kernel
theorem dX10_comesTo_117 : decode cX10_comesTo 117 = .ok (.ior, 1) := by decide +kernel
theorem dX10_comesTo_118 : decode cX10_comesTo 118 = .ok (.putfield 212, 3) := by decide +kernel
theorem dX10_comesTo_121 : decode cX10_comesTo 121 = .ok (.aload_n 0, 1) := by decide +kernel
theorem dX10_comesTo_122 : decode cX10_comesTo 122 = .ok (.getfield 42, 3) := by decide +kernel
theorem dX10_comesTo_125 : decode cX10_comesTo 125 = .ok (.bipush 16, 2) := by decide +kernel
theorem dX10_comesTo_127 : decode cX10_comesTo 127 = .ok (.iload_n 2, 1) := by decide +kernel
theorem dX10_comesTo_128 : decode cX10_comesTo 128 = .ok (.imul, 1) := by decide +kernel
theorem dX10_comesTo_129 : decode cX10_comesTo 129 = .ok (.iload_n 3, 1) := by decide +kernel
theorem dX10_comesTo_130 : decode cX10_comesTo 130 = .ok (.iadd, 1) := by decide +kernel
theorem dX10_comesTo_131 : decode cX10_comesTo 131 = .ok (.iload 4, 2) := by decide +kernel
theorem dX10_comesTo_133 : decode cX10_comesTo 133 = .ok (.iastore, 1) := by decide +kernel
theorem dX10_comesTo_134 : decode cX10_comesTo 134 = .ok (.iinc 3 1, 3) := by decide +kernel
theorem dX10_comesTo_137 : decode cX10_comesTo 137 = .ok (.goto (-79), 3) := by decide +kernel
theorem dX10_comesTo_140 : decode cX10_comesTo 140 = .ok (.iconst 1, 1) := by decide +kernel
theorem dX10_comesTo_141 : decode cX10_comesTo 141 = .ok (.ireturn, 1) := by decide +kernel
theorem dX10_goesOn_0 : decode cX10_goesOn 0 = .ok (.aload_n 0, 1) := by decide +kernel
theorem dX10_goesOn_1 : decode cX10_goesOn 1 = .ok (.iload_n 2, 1) := by decide +kernel
theorem dX10_goesOn_2 : decode cX10_goesOn 2 = .ok (.invokevirtual 216, 3) := by decide +kernel
theorem dX10_goesOn_5 : decode cX10_goesOn 5 = .ok (.aload_n 0, 1) := by decide +kernel
theorem dX10_goesOn_6 : decode cX10_goesOn 6 = .ok (.iload_n 1, 1) := by decide +kernel
theorem dX10_goesOn_7 : decode cX10_goesOn 7 = .ok (.iload_n 2, 1) := by decide +kernel
theorem dX10_goesOn_8 : decode cX10_goesOn 8 = .ok (.invokevirtual 200, 3) := by decide +kernel
theorem dX10_goesOn_11 : decode cX10_goesOn 11 = .ok (.ifCond .ne 5, 3) := by decide +kernel
theorem dX10_goesOn_14 : decode cX10_goesOn 14 = .ok (.iconst 0, 1) := by decide +kernel
theorem dX10_goesOn_15 : decode cX10_goesOn 15 = .ok (.ireturn, 1) := by decide +kernel
theorem dX10_goesOn_16 : decode cX10_goesOn 16 = .ok (.aload_n 0, 1) := by decide +kernel
theorem dX10_goesOn_17 : decode cX10_goesOn 17 = .ok (.getfield 16, 3) := by decide +kernel
theorem dX10_goesOn_20 : decode cX10_goesOn 20 = .ok (.bipush 40, 2) := by decide +kernel
theorem dX10_goesOn_22 : decode cX10_goesOn 22 = .ok (.iload_n 1, 1) := by decide +kernel
theorem dX10_goesOn_23 : decode cX10_goesOn 23 = .ok (.imul, 1) := by decide +kernel
theorem dX10_goesOn_24 : decode cX10_goesOn 24 = .ok (.iload_n 2, 1) := by decide +kernel
theorem dX10_goesOn_25 : decode cX10_goesOn 25 = .ok (.iadd, 1) := by decide +kernel
theorem dX10_goesOn_26 : decode cX10_goesOn 26 = .ok (.iaload, 1) := by decide +kernel
theorem dX10_goesOn_27 : decode cX10_goesOn 27 = .ok (.istore_n 3, 1) := by decide +kernel
theorem dX10_goesOn_28 : decode cX10_goesOn 28 = .ok (.iload_n 3, 1) := by decide +kernel
theorem dX10_goesOn_29 : decode cX10_goesOn 29 = .ok (.invokestatic 206, 3) := by decide +kernel
theorem dX10_goesOn_32 : decode cX10_goesOn 32 = .ok (.ifCond .ne 16, 3) := by decide +kernel
theorem dX10_goesOn_35 : decode cX10_goesOn 35 = .ok (.aload_n 0, 1) := by decide +kernel
theorem dX10_goesOn_36 : decode cX10_goesOn 36 = .ok (.iload_n 1, 1) := by decide +kernel
theorem dX10_goesOn_37 : decode cX10_goesOn 37 = .ok (.iload_n 2, 1) := by decide +kernel
theorem dX10_goesOn_38 : decode cX10_goesOn 38 = .ok (.iconst 1, 1) := by decide +kernel
theorem dX10_goesOn_39 : decode cX10_goesOn 39 = .ok (.iadd, 1) := by decide +kernel
theorem dX10_goesOn_40 : decode cX10_goesOn 40 = .ok (.invokevirtual 219, 3) := by decide +kernel
theorem dX10_goesOn_43 : decode cX10_goesOn 43 = .ok (.ifCond .ne 5, 3) := by decide +kernel
theorem dX10_goesOn_46 : decode cX10_goesOn 46 = .ok (.iconst 0, 1) := by decide +kernel
theorem dX10_goesOn_47 : decode cX10_goesOn 47 = .ok (.ireturn, 1) := by decide +kernel
theorem dX10_goesOn_48 : decode cX10_goesOn 48 = .ok (.iload_n 3, 1) := by decide +kernel
theorem dX10_goesOn_49 : decode cX10_goesOn 49 = .ok (.invokestatic 203, 3) := by decide +kernel
theorem dX10_goesOn_52 : decode cX10_goesOn 52 = .ok (.ifCond .eq 25, 3) := by decide +kernel
theorem dX10_goesOn_55 : decode cX10_goesOn 55 = .ok (.aload_n 0, 1) := by decide +kernel
theorem dX10_goesOn_56 : decode cX10_goesOn 56 = .ok (.iload_n 1, 1) := by decide +kernel
theorem dX10_goesOn_57 : decode cX10_goesOn 57 = .ok (.aload_n 0, 1) := by decide +kernel
theorem dX10_goesOn_58 : decode cX10_goesOn 58 = .ok (.getfield 19, 3) := by decide +kernel
theorem dX10_goesOn_61 : decode cX10_goesOn 61 = .ok (.bipush 40, 2) := by decide +kernel
theorem dX10_goesOn_63 : decode cX10_goesOn 63 = .ok (.iload_n 1, 1) := by decide +kernel
theorem dX10_goesOn_64 : decode cX10_goesOn 64 = .ok (.imul, 1) := by decide +kernel
theorem dX10_goesOn_65 : decode cX10_goesOn 65 = .ok (.iload_n 2, 1) := by decide +kernel
theorem dX10_goesOn_66 : decode cX10_goesOn 66 = .ok (.iadd, 1) := by decide +kernel
theorem dX10_goesOn_67 : decode cX10_goesOn 67 = .ok (.laload, 1) := by decide +kernel
theorem dX10_goesOn_68 : decode cX10_goesOn 68 = .ok (.l2i, 1) := by decide +kernel
theorem dX10_goesOn_69 : decode cX10_goesOn 69 = .ok (.invokevirtual 219, 3) := by decide +kernel
theorem dX10_goesOn_72 : decode cX10_goesOn 72 = .ok (.ifCond .ne 5, 3) := by decide +kernel
theorem dX10_goesOn_75 : decode cX10_goesOn 75 = .ok (.iconst 0, 1) := by decide +kernel
theorem dX10_goesOn_76 : decode cX10_goesOn 76 = .ok (.ireturn, 1) := by decide +kernel
theorem dX10_goesOn_77 : decode cX10_goesOn 77 = .ok (.iconst 1, 1) := by decide +kernel
theorem dX10_goesOn_78 : decode cX10_goesOn 78 = .ok (.istore 4, 2) := by decide +kernel
theorem dX10_goesOn_80 : decode cX10_goesOn 80 = .ok (.iconst 0, 1) := by decide +kernel
theorem dX10_goesOn_81 : decode cX10_goesOn 81 = .ok (.istore 5, 2) := by decide +kernel
theorem dX10_goesOn_83 : decode cX10_goesOn 83 = .ok (.iload 5, 2) := by decide +kernel
theorem dX10_goesOn_85 : decode cX10_goesOn 85 = .ok (.aload_n 0, 1) := by decide +kernel
theorem dX10_goesOn_86 : decode cX10_goesOn 86 = .ok (.getfield 23, 3) := by decide +kernel
theorem dX10_goesOn_89 : decode cX10_goesOn 89 = .ok (.iload_n 1, 1) := by decide +kernel
theorem dX10_goesOn_90 : decode cX10_goesOn 90 = .ok (.iaload, 1) := by decide +kernel
theorem dX10_goesOn_91 : decode cX10_goesOn 91 = .ok (.if_icmp .ge 74, 3) := by decide +kernel
theorem dX10_goesOn_94 : decode cX10_goesOn 94 = .ok (.iload 4, 2) := by decide +kernel
theorem dX10_goesOn_96 : decode cX10_goesOn 96 = .ok (.ifCond .eq 69, 3) := by decide +kernel
theorem dX10_goesOn_99 : decode cX10_goesOn 99 = .ok (.iconst 4, 1) := by decide +kernel
theorem dX10_goesOn_100 : decode cX10_goesOn 100 = .ok (.bipush 6, 2) := by decide +kernel
theorem dX10_goesOn_102 : decode cX10_goesOn 102 = .ok (.iload_n 1, 1) := by decide +kernel
theorem dX10_goesOn_103 : decode cX10_goesOn 103 = .ok (.imul, 1) := by decide +kernel
theorem dX10_goesOn_104 : decode cX10_goesOn 104 = .ok (.iload 5, 2) := by decide +kernel
theorem dX10_goesOn_106 : decode cX10_goesOn 106 = .ok (.iadd, 1) := by decide +kernel
end
section
theorem dX10_goesOn_107 : decode cX10_goesOn 107 = .ok (.imul, 1) := by decide +kernel
theorem dX10_goesOn_108 : decode cX10_goesOn 108 = .ok (.istore 6, 2) := by decide +kernel
theorem dX10_goesOn_110 : decode cX10_goesOn 110 = .ok (.iload_n 2, 1) := by decide +kernel
theorem dX10_goesOn_111 : decode cX10_goesOn 111 = .ok (.i2l, 1) := by decide +kernel
theorem dX10_goesOn_112 : decode cX10_goesOn 112 = .ok (.aload_n 0, 1) := by decide +kernel
theorem dX10_goesOn_113 : decode cX10_goesOn 113 = .ok (.getfield 26, 3) := by decide +kernel
theorem dX10_goesOn_116 : decode cX10_goesOn 116 = .ok (.iload 6, 2) := by decide +kernel
theorem dX10_goesOn_118 : decode cX10_goesOn 118 = .ok (.iaload, 1) := by decide +kernel
theorem dX10_goesOn_119 : decode cX10_goesOn 119 = .ok (.i2l, 1) := by decide +kernel
theorem dX10_goesOn_120 : decode cX10_goesOn 120 = .ok (.aload_n 0, 1) := by decide +kernel
theorem dX10_goesOn_121 : decode cX10_goesOn 121 = .ok (.getfield 26, 3) := by decide +kernel
theorem dX10_goesOn_124 : decode cX10_goesOn 124 = .ok (.iload 6, 2) := by decide +kernel
theorem dX10_goesOn_126 : decode cX10_goesOn 126 = .ok (.iconst 1, 1) := by decide +kernel
theorem dX10_goesOn_127 : decode cX10_goesOn 127 = .ok (.iadd, 1) := by decide +kernel
theorem dX10_goesOn_128 : decode cX10_goesOn 128 = .ok (.iaload, 1) := by decide +kernel
theorem dX10_goesOn_129 : decode cX10_goesOn 129 = .ok (.iconst 1, 1) := by decide +kernel
theorem dX10_goesOn_130 : decode cX10_goesOn 130 = .ok (.isub, 1) := by decide +kernel
theorem dX10_goesOn_131 : decode cX10_goesOn 131 = .ok (.i2l, 1) := by decide +kernel
theorem dX10_goesOn_132 : decode cX10_goesOn 132 = .ok (.invokestatic 79, 3) := by decide +kernel
theorem dX10_goesOn_135 : decode cX10_goesOn 135 = .ok (.ifCond .eq 24, 3) := by decide +kernel
theorem dX10_goesOn_138 : decode cX10_goesOn 138 = .ok (.aload_n 0, 1) := by decide +kernel
theorem dX10_goesOn_139 : decode cX10_goesOn 139 = .ok (.iload_n 2, 1) := by decide +kernel
theorem dX10_goesOn_140 : decode cX10_goesOn 140 = .ok (.invokevirtual 222, 3) := by decide +kernel
theorem dX10_goesOn_143 : decode cX10_goesOn 143 = .ok (.aload_n 0, 1) := by decide +kernel
theorem dX10_goesOn_144 : decode cX10_goesOn 144 = .ok (.iload_n 1, 1) := by decide +kernel
theorem dX10_goesOn_145 : decode cX10_goesOn 145 = .ok (.aload_n 0, 1) := by decide +kernel
theorem dX10_goesOn_146 : decode cX10_goesOn 146 = .ok (.getfield 26, 3) := by decide +kernel
theorem dX10_goesOn_149 : decode cX10_goesOn 149 = .ok (.iload 6, 2) := by decide +kernel
theorem dX10_goesOn_151 : decode cX10_goesOn 151 = .ok (.iconst 2, 1) := by decide +kernel
theorem dX10_goesOn_152 : decode cX10_goesOn 152 = .ok (.iadd, 1) := by decide +kernel
theorem dX10_goesOn_153 : decode cX10_goesOn 153 = .ok (.iaload, 1) := by decide +kernel
theorem dX10_goesOn_154 : decode cX10_goesOn 154 = .ok (.invokevirtual 219, 3) := by decide +kernel
theorem dX10_goesOn_157 : decode cX10_goesOn 157 = .ok (.istore 4, 2) := by decide +kernel
theorem dX10_goesOn_159 : decode cX10_goesOn 159 = .ok (.iinc 5 1, 3) := by decide +kernel
theorem dX10_goesOn_162 : decode cX10_goesOn 162 = .ok (.goto (-79), 3) := by decide +kernel
theorem dX10_goesOn_165 : decode cX10_goesOn 165 = .ok (.iload 4, 2) := by decide +kernel
theorem dX10_goesOn_167 : decode cX10_goesOn 167 = .ok (.ireturn, 1) := by decide +kernel
theorem dX10_ahead_0 : decode cX10_ahead 0 = .ok (.iconst 0, 1) := by decide +kernel
theorem dX10_ahead_1 : decode cX10_ahead 1 = .ok (.istore_n 2, 1) := by decide +kernel
theorem dX10_ahead_2 : decode cX10_ahead 2 = .ok (.iload_n 2, 1) := by decide +kernel
theorem dX10_ahead_3 : decode cX10_ahead 3 = .ok (.bipush 8, 2) := by decide +kernel
theorem dX10_ahead_5 : decode cX10_ahead 5 = .ok (.if_icmp .ge 21, 3) := by decide +kernel
theorem dX10_ahead_8 : decode cX10_ahead 8 = .ok (.aload_n 0, 1) := by decide +kernel
theorem dX10_ahead_9 : decode cX10_ahead 9 = .ok (.getfield 45, 3) := by decide +kernel
theorem dX10_ahead_12 : decode cX10_ahead 12 = .ok (.iload_n 2, 1) := by decide +kernel
theorem dX10_ahead_13 : decode cX10_ahead 13 = .ok (.aload_n 0, 1) := by decide +kernel
theorem dX10_ahead_14 : decode cX10_ahead 14 = .ok (.getfield 48, 3) := by decide +kernel
theorem dX10_ahead_17 : decode cX10_ahead 17 = .ok (.iload_n 2, 1) := by decide +kernel
theorem dX10_ahead_18 : decode cX10_ahead 18 = .ok (.iaload, 1) := by decide +kernel
theorem dX10_ahead_19 : decode cX10_ahead 19 = .ok (.iastore, 1) := by decide +kernel
theorem dX10_ahead_20 : decode cX10_ahead 20 = .ok (.iinc 2 1, 3) := by decide +kernel
theorem dX10_ahead_23 : decode cX10_ahead 23 = .ok (.goto (-21), 3) := by decide +kernel
theorem dX10_ahead_26 : decode cX10_ahead 26 = .ok (.aload_n 0, 1) := by decide +kernel
theorem dX10_ahead_27 : decode cX10_ahead 27 = .ok (.getfield 45, 3) := by decide +kernel
theorem dX10_ahead_30 : decode cX10_ahead 30 = .ok (.bipush 8, 2) := by decide +kernel
theorem dX10_ahead_32 : decode cX10_ahead 32 = .ok (.iconst 1, 1) := by decide +kernel
theorem dX10_ahead_33 : decode cX10_ahead 33 = .ok (.iastore, 1) := by decide +kernel
theorem dX10_ahead_34 : decode cX10_ahead 34 = .ok (.aload_n 0, 1) := by decide +kernel
theorem dX10_ahead_35 : decode cX10_ahead 35 = .ok (.iconst 1, 1) := by decide +kernel
theorem dX10_ahead_36 : decode cX10_ahead 36 = .ok (.putfield 145, 3) := by decide +kernel
theorem dX10_ahead_39 : decode cX10_ahead 39 = .ok (.return_, 1) := by decide +kernel
theorem dX10_wrongJoined_0 : decode cX10_wrongJoined 0 = .ok (.aload_n 0, 1) := by decide +kernel
theorem dX10_wrongJoined_1 : decode cX10_wrongJoined 1 = .ok (.iload_n 1, 1) := by decide +kernel
theorem dX10_wrongJoined_2 : decode cX10_wrongJoined 2 = .ok (.invokevirtual 188, 3) := by decide +kernel
theorem dX10_wrongJoined_5 : decode cX10_wrongJoined 5 = .ok (.aload_n 0, 1) := by decide +kernel
theorem dX10_wrongJoined_6 : decode cX10_wrongJoined 6 = .ok (.iconst 0, 1) := by decide +kernel
theorem dX10_wrongJoined_7 : decode cX10_wrongJoined 7 = .ok (.putfield 225, 3) := by decide +kernel
theorem dX10_wrongJoined_10 : decode cX10_wrongJoined 10 = .ok (.aload_n 0, 1) := by decide +kernel
theorem dX10_wrongJoined_11 : decode cX10_wrongJoined 11 = .ok (.getfield 13, 3) := by decide +kernel
theorem dX10_wrongJoined_14 : decode cX10_wrongJoined 14 = .ok (.iload_n 1, 1) := by decide +kernel
theorem dX10_wrongJoined_15 : decode cX10_wrongJoined 15 = .ok (.iaload, 1) := by decide +kernel
theorem dX10_wrongJoined_16 : decode cX10_wrongJoined 16 = .ok (.ifCond .ne 5, 3) := by decide +kernel
theorem dX10_wrongJoined_19 : decode cX10_wrongJoined 19 = .ok (.iconst 0, 1) := by decide +kernel
theorem dX10_wrongJoined_20 : decode cX10_wrongJoined 20 = .ok (.ireturn, 1) := by decide +kernel
theorem dX10_wrongJoined_21 : decode cX10_wrongJoined 21 = .ok (.aload_n 0, 1) := by decide +kernel
theorem dX10_wrongJoined_22 : decode cX10_wrongJoined 22 = .ok (.iconst 0, 1) := by decide +kernel
theorem dX10_wrongJoined_23 : decode cX10_wrongJoined 23 = .ok (.invokevirtual 194, 3) := by decide +kernel
theorem dX10_wrongJoined_26 : decode cX10_wrongJoined 26 = .ok (.aload_n 0, 1) := by decide +kernel
theorem dX10_wrongJoined_27 : decode cX10_wrongJoined 27 = .ok (.iconst 1, 1) := by decide +kernel
theorem dX10_wrongJoined_28 : decode cX10_wrongJoined 28 = .ok (.putfield 212, 3) := by decide +kernel
theorem dX10_wrongJoined_31 : decode cX10_wrongJoined 31 = .ok (.aload_n 0, 1) := by decide +kernel
theorem dX10_wrongJoined_32 : decode cX10_wrongJoined 32 = .ok (.getfield 212, 3) := by decide +kernel
theorem dX10_wrongJoined_35 : decode cX10_wrongJoined 35 = .ok (.ifCond .eq 93, 3) := by decide +kernel
theorem dX10_wrongJoined_38 : decode cX10_wrongJoined 38 = .ok (.aload_n 0, 1) := by decide +kernel
theorem dX10_wrongJoined_39 : decode cX10_wrongJoined 39 = .ok (.iconst 0, 1) := by decide +kernel
theorem dX10_wrongJoined_40 : decode cX10_wrongJoined 40 = .ok (.putfield 212, 3) := by decide +kernel
theorem dX10_wrongJoined_43 : decode cX10_wrongJoined 43 = .ok (.aload_n 0, 1) := by decide +kernel
theorem dX10_wrongJoined_44 : decode cX10_wrongJoined 44 = .ok (.dup, 1) := by decide +kernel
theorem dX10_wrongJoined_45 : decode cX10_wrongJoined 45 = .ok (.getfield 225, 3) := by decide +kernel
theorem dX10_wrongJoined_48 : decode cX10_wrongJoined 48 = .ok (.iconst 1, 1) := by decide +kernel
theorem dX10_wrongJoined_49 : decode cX10_wrongJoined 49 = .ok (.iadd, 1) := by decide +kernel
theorem dX10_wrongJoined_50 : decode cX10_wrongJoined 50 = .ok (.putfield 225, 3) := by decide +kernel
theorem dX10_wrongJoined_53 : decode cX10_wrongJoined 53 = .ok (.iconst 0, 1) := by decide +kernel
theorem dX10_wrongJoined_54 : decode cX10_wrongJoined 54 = .ok (.istore_n 2, 1) := by decide +kernel
theorem dX10_wrongJoined_55 : decode cX10_wrongJoined 55 = .ok (.iload_n 2, 1) := by decide +kernel
theorem dX10_wrongJoined_56 : decode cX10_wrongJoined 56 = .ok (.aload_n 0, 1) := by decide +kernel
theorem dX10_wrongJoined_57 : decode cX10_wrongJoined 57 = .ok (.getfield 13, 3) := by decide +kernel
theorem dX10_wrongJoined_60 : decode cX10_wrongJoined 60 = .ok (.iload_n 1, 1) := by decide +kernel
theorem dX10_wrongJoined_61 : decode cX10_wrongJoined 61 = .ok (.iaload, 1) := by decide +kernel
theorem dX10_wrongJoined_62 : decode cX10_wrongJoined 62 = .ok (.if_icmp .ge 63, 3) := by decide +kernel
theorem dX10_wrongJoined_65 : decode cX10_wrongJoined 65 = .ok (.aload_n 0, 1) := by decide +kernel
theorem dX10_wrongJoined_66 : decode cX10_wrongJoined 66 = .ok (.getfield 39, 3) := by decide +kernel
theorem dX10_wrongJoined_69 : decode cX10_wrongJoined 69 = .ok (.iload_n 2, 1) := by decide +kernel
theorem dX10_wrongJoined_70 : decode cX10_wrongJoined 70 = .ok (.iaload, 1) := by decide +kernel
theorem dX10_wrongJoined_71 : decode cX10_wrongJoined 71 = .ok (.ifCond .ge 6, 3) := by decide +kernel
theorem dX10_wrongJoined_74 : decode cX10_wrongJoined 74 = .ok (.goto 45, 3) := by decide +kernel
theorem dX10_wrongJoined_77 : decode cX10_wrongJoined 77 = .ok (.iconst 0, 1) := by decide +kernel
theorem dX10_wrongJoined_78 : decode cX10_wrongJoined 78 = .ok (.istore_n 3, 1) := by decide +kernel
theorem dX10_wrongJoined_79 : decode cX10_wrongJoined 79 = .ok (.iload_n 3, 1) := by decide +kernel
theorem dX10_wrongJoined_80 : decode cX10_wrongJoined 80 = .ok (.bipush 8, 2) := by decide +kernel
theorem dX10_wrongJoined_82 : decode cX10_wrongJoined 82 = .ok (.if_icmp .ge 26, 3) := by decide +kernel
theorem dX10_wrongJoined_85 : decode cX10_wrongJoined 85 = .ok (.aload_n 0, 1) := by decide +kernel
theorem dX10_wrongJoined_86 : decode cX10_wrongJoined 86 = .ok (.getfield 48, 3) := by decide +kernel
theorem dX10_wrongJoined_89 : decode cX10_wrongJoined 89 = .ok (.iload_n 3, 1) := by decide +kernel
theorem dX10_wrongJoined_90 : decode cX10_wrongJoined 90 = .ok (.aload_n 0, 1) := by decide +kernel
theorem dX10_wrongJoined_91 : decode cX10_wrongJoined 91 = .ok (.getfield 42, 3) := by decide +kernel
theorem dX10_wrongJoined_94 : decode cX10_wrongJoined 94 = .ok (.bipush 16, 2) := by decide +kernel
theorem dX10_wrongJoined_96 : decode cX10_wrongJoined 96 = .ok (.iload_n 2, 1) := by decide +kernel
theorem dX10_wrongJoined_97 : decode cX10_wrongJoined 97 = .ok (.imul, 1) := by decide +kernel
theorem dX10_wrongJoined_98 : decode cX10_wrongJoined 98 = .ok (.iload_n 3, 1) := by decide +kernel
theorem dX10_wrongJoined_99 : decode cX10_wrongJoined 99 = .ok (.iadd, 1) := by decide +kernel
theorem dX10_wrongJoined_100 : decode cX10_wrongJoined 100 = .ok (.iaload, 1) := by decide +kernel
theorem dX10_wrongJoined_101 : decode cX10_wrongJoined 101 = .ok (.iastore, 1) := by decide +kernel
theorem dX10_wrongJoined_102 : decode cX10_wrongJoined 102 = .ok (.iinc 3 1, 3) := by decide +kernel
theorem dX10_wrongJoined_105 : decode cX10_wrongJoined 105 = .ok (.goto (-26), 3) := by decide +kernel
theorem dX10_wrongJoined_108 : decode cX10_wrongJoined 108 = .ok (.aload_n 0, 1) := by decide +kernel
theorem dX10_wrongJoined_109 : decode cX10_wrongJoined 109 = .ok (.iload_n 1, 1) := by decide +kernel
theorem dX10_wrongJoined_110 : decode cX10_wrongJoined 110 = .ok (.iload_n 2, 1) := by decide +kernel
theorem dX10_wrongJoined_111 : decode cX10_wrongJoined 111 = .ok (.invokevirtual 228, 3) := by decide +kernel
theorem dX10_wrongJoined_114 : decode cX10_wrongJoined 114 = .ok (.ifCond .ne 5, 3) := by decide +kernel
theorem dX10_wrongJoined_117 : decode cX10_wrongJoined 117 = .ok (.iload_n 2, 1) := by decide +kernel
theorem dX10_wrongJoined_118 : decode cX10_wrongJoined 118 = .ok (.ireturn, 1) := by decide +kernel
theorem dX10_wrongJoined_119 : decode cX10_wrongJoined 119 = .ok (.iinc 2 1, 3) := by decide +kernel
theorem dX10_wrongJoined_122 : decode cX10_wrongJoined 122 = .ok (.goto (-67), 3) := by decide +kernel
theorem dX10_wrongJoined_125 : decode cX10_wrongJoined 125 = .ok (.goto (-94), 3) := by decide +kernel
theorem dX10_wrongJoined_128 : decode cX10_wrongJoined 128 = .ok (.iconst (-1), 1) := by decide +kernel
theorem dX10_wrongJoined_129 : decode cX10_wrongJoined 129 = .ok (.ireturn, 1) := by decide +kernel
theorem dX10_join_0 : decode cX10_join 0 = .ok (.aload_n 0, 1) := by decide +kernel
theorem dX10_join_1 : decode cX10_join 1 = .ok (.iload_n 1, 1) := by decide +kernel
theorem dX10_join_2 : decode cX10_join 2 = .ok (.invokevirtual 130, 3) := by decide +kernel
theorem dX10_join_5 : decode cX10_join 5 = .ok (.ifCond .ne 5, 3) := by decide +kernel
theorem dX10_join_8 : decode cX10_join 8 = .ok (.iconst (-1), 1) := by decide +kernel
theorem dX10_join_9 : decode cX10_join 9 = .ok (.ireturn, 1) := by decide +kernel
theorem dX10_join_10 : decode cX10_join 10 = .ok (.aload_n 0, 1) := by decide +kernel
theorem dX10_join_11 : decode cX10_join 11 = .ok (.iload_n 1, 1) := by decide +kernel
theorem dX10_join_12 : decode cX10_join 12 = .ok (.invokevirtual 231, 3) := by decide +kernel
theorem dX10_join_15 : decode cX10_join 15 = .ok (.istore_n 2, 1) := by decide +kernel
theorem dX10_join_16 : decode cX10_join 16 = .ok (.aload_n 0, 1) := by decide +kernel
theorem dX10_join_17 : decode cX10_join 17 = .ok (.getfield 35, 3) := by decide +kernel
theorem dX10_join_20 : decode cX10_join 20 = .ok (.iload_n 1, 1) := by decide +kernel
theorem dX10_join_21 : decode cX10_join 21 = .ok (.iload_n 2, 1) := by decide +kernel
theorem dX10_join_22 : decode cX10_join 22 = .ok (.ifCond .ge 7, 3) := by decide +kernel
theorem dX10_join_25 : decode cX10_join 25 = .ok (.iconst 1, 1) := by decide +kernel
theorem dX10_join_26 : decode cX10_join 26 = .ok (.goto 4, 3) := by decide +kernel
theorem dX10_join_29 : decode cX10_join 29 = .ok (.iconst 0, 1) := by decide +kernel
theorem dX10_join_30 : decode cX10_join 30 = .ok (.bastore, 1) := by decide +kernel
theorem dX10_join_31 : decode cX10_join 31 = .ok (.iload_n 2, 1) := by decide +kernel
theorem dX10_join_32 : decode cX10_join 32 = .ok (.ifCond .ge 7, 3) := by decide +kernel
theorem dX10_join_35 : decode cX10_join 35 = .ok (.iconst 0, 1) := by decide +kernel
theorem dX10_join_36 : decode cX10_join 36 = .ok (.goto 6, 3) := by decide +kernel
theorem dX10_join_39 : decode cX10_join 39 = .ok (.iconst 1, 1) := by decide +kernel
theorem dX10_join_40 : decode cX10_join 40 = .ok (.iload_n 2, 1) := by decide +kernel
theorem dX10_join_41 : decode cX10_join 41 = .ok (.iadd, 1) := by decide +kernel
theorem dX10_join_42 : decode cX10_join 42 = .ok (.ireturn, 1) := by decide +kernel
theorem dX10_kind_0 : decode cX10_kind 0 = .ok (.iload_n 1, 1) := by decide +kernel
theorem dX10_kind_1 : decode cX10_kind 1 = .ok (.i2l, 1) := by decide +kernel
theorem dX10_kind_2 : decode cX10_kind 2 = .ok (.lconst 0, 1) := by decide +kernel
theorem dX10_kind_3 : decode cX10_kind 3 = .ok (.ldc2_w 137, 3) := by decide +kernel
theorem dX10_kind_6 : decode cX10_kind 6 = .ok (.invokestatic 79, 3) := by decide +kernel
theorem dX10_kind_9 : decode cX10_kind 9 = .ok (.ifCond .eq 45, 3) := by decide +kernel
theorem dX10_kind_12 : decode cX10_kind 12 = .ok (.aload_n 0, 1) := by decide +kernel
theorem dX10_kind_13 : decode cX10_kind 13 = .ok (.getfield 39, 3) := by decide +kernel
theorem dX10_kind_16 : decode cX10_kind 16 = .ok (.iload_n 1, 1) := by decide +kernel
theorem dX10_kind_17 : decode cX10_kind 17 = .ok (.iaload, 1) := by decide +kernel
theorem dX10_kind_18 : decode cX10_kind 18 = .ok (.ifCond .lt 36, 3) := by decide +kernel
theorem dX10_kind_21 : decode cX10_kind 21 = .ok (.iload_n 2, 1) := by decide +kernel
theorem dX10_kind_22 : decode cX10_kind 22 = .ok (.i2l, 1) := by decide +kernel
theorem dX10_kind_23 : decode cX10_kind 23 = .ok (.lconst 0, 1) := by decide +kernel
theorem dX10_kind_24 : decode cX10_kind 24 = .ok (.bipush 7, 2) := by decide +kernel
theorem dX10_kind_26 : decode cX10_kind 26 = .ok (.aload_n 0, 1) := by decide +kernel
theorem dX10_kind_27 : decode cX10_kind 27 = .ok (.getfield 39, 3) := by decide +kernel
theorem dX10_kind_30 : decode cX10_kind 30 = .ok (.iload_n 1, 1) := by decide +kernel
theorem dX10_kind_31 : decode cX10_kind 31 = .ok (.iaload, 1) := by decide +kernel
theorem dX10_kind_32 : decode cX10_kind 32 = .ok (.iadd, 1) := by decide +kernel
theorem dX10_kind_33 : decode cX10_kind 33 = .ok (.i2l, 1) := by decide +kernel
theorem dX10_kind_34 : decode cX10_kind 34 = .ok (.invokestatic 79, 3) := by decide +kernel
theorem dX10_kind_37 : decode cX10_kind 37 = .ok (.ifCond .eq 17, 3) := by decide +kernel
theorem dX10_kind_40 : decode cX10_kind 40 = .ok (.aload_n 0, 1) := by decide +kernel
theorem dX10_kind_41 : decode cX10_kind 41 = .ok (.getfield 42, 3) := by decide +kernel
theorem dX10_kind_44 : decode cX10_kind 44 = .ok (.bipush 16, 2) := by decide +kernel
theorem dX10_kind_46 : decode cX10_kind 46 = .ok (.iload_n 1, 1) := by decide +kernel
theorem dX10_kind_47 : decode cX10_kind 47 = .ok (.imul, 1) := by decide +kernel
theorem dX10_kind_48 : decode cX10_kind 48 = .ok (.iload_n 2, 1) := by decide +kernel
theorem dX10_kind_49 : decode cX10_kind 49 = .ok (.iadd, 1) := by decide +kernel
theorem dX10_kind_50 : decode cX10_kind 50 = .ok (.iaload, 1) := by decide +kernel
theorem dX10_kind_51 : decode cX10_kind 51 = .ok (.goto 5, 3) := by decide +kernel
theorem dX10_kind_54 : decode cX10_kind 54 = .ok (.ldc 234, 2) := by decide +kernel
theorem dX10_kind_56 : decode cX10_kind 56 = .ok (.ireturn, 1) := by decide +kernel
theorem dX10_rounds_0 : decode cX10_rounds 0 = .ok (.aload_n 0, 1) := by decide +kernel
theorem dX10_rounds_1 : decode cX10_rounds 1 = .ok (.getfield 225, 3) := by decide +kernel
theorem dX10_rounds_4 : decode cX10_rounds 4 = .ok (.ireturn, 1) := by decide +kernel
theorem dX10_areRight_0 : decode cX10_areRight 0 = .ok (.iconst 1, 1) := by decide +kernel
theorem dX10_areRight_1 : decode cX10_areRight 1 = .ok (.iload_n 1, 1) := by decide +kernel
theorem dX10_areRight_2 : decode cX10_areRight 2 = .ok (.ishl, 1) := by decide +kernel
theorem dX10_areRight_3 : decode cX10_areRight 3 = .ok (.istore_n 2, 1) := by decide +kernel
theorem dX10_areRight_4 : decode cX10_areRight 4 = .ok (.iload_n 1, 1) := by decide +kernel
theorem dX10_areRight_5 : decode cX10_areRight 5 = .ok (.istore_n 3, 1) := by decide +kernel
theorem dX10_areRight_6 : decode cX10_areRight 6 = .ok (.iload_n 3, 1) := by decide +kernel
theorem dX10_areRight_7 : decode cX10_areRight 7 = .ok (.ifCond .lt 109, 3) := by decide +kernel
theorem dX10_areRight_10 : decode cX10_areRight 10 = .ok (.iload_n 2, 1) := by decide +kernel
theorem dX10_areRight_11 : decode cX10_areRight 11 = .ok (.iload_n 3, 1) := by decide +kernel
theorem dX10_areRight_12 : decode cX10_areRight 12 = .ok (.ishr, 1) := by decide +kernel
theorem dX10_areRight_13 : decode cX10_areRight 13 = .ok (.iconst 1, 1) := by decide +kernel
theorem dX10_areRight_14 : decode cX10_areRight 14 = .ok (.iand, 1) := by decide +kernel
theorem dX10_areRight_15 : decode cX10_areRight 15 = .ok (.ifCond .ne 6, 3) := by decide +kernel
theorem dX10_areRight_18 : decode cX10_areRight 18 = .ok (.goto 92, 3) := by decide +kernel
theorem dX10_areRight_21 : decode cX10_areRight 21 = .ok (.aload_n 0, 1) := by decide +kernel
theorem dX10_areRight_22 : decode cX10_areRight 22 = .ok (.getfield 35, 3) := by decide +kernel
theorem dX10_areRight_25 : decode cX10_areRight 25 = .ok (.iload_n 3, 1) := by decide +kernel
theorem dX10_areRight_26 : decode cX10_areRight 26 = .ok (.baload, 1) := by decide +kernel
theorem dX10_areRight_27 : decode cX10_areRight 27 = .ok (.ifCond .ne 5, 3) := by decide +kernel
theorem dX10_areRight_30 : decode cX10_areRight 30 = .ok (.iconst 0, 1) := by decide +kernel
theorem dX10_areRight_31 : decode cX10_areRight 31 = .ok (.ireturn, 1) := by decide +kernel
theorem dX10_areRight_32 : decode cX10_areRight 32 = .ok (.iconst 0, 1) := by decide +kernel
theorem dX10_areRight_33 : decode cX10_areRight 33 = .ok (.istore 4, 2) := by decide +kernel
theorem dX10_areRight_35 : decode cX10_areRight 35 = .ok (.iload 4, 2) := by decide +kernel
theorem dX10_areRight_37 : decode cX10_areRight 37 = .ok (.aload_n 0, 1) := by decide +kernel
theorem dX10_areRight_38 : decode cX10_areRight 38 = .ok (.getfield 13, 3) := by decide +kernel
theorem dX10_areRight_41 : decode cX10_areRight 41 = .ok (.iload_n 3, 1) := by decide +kernel
theorem dX10_areRight_42 : decode cX10_areRight 42 = .ok (.iaload, 1) := by decide +kernel
theorem dX10_areRight_43 : decode cX10_areRight 43 = .ok (.if_icmp .ge 67, 3) := by decide +kernel
theorem dX10_areRight_46 : decode cX10_areRight 46 = .ok (.aload_n 0, 1) := by decide +kernel
theorem dX10_areRight_47 : decode cX10_areRight 47 = .ok (.getfield 16, 3) := by decide +kernel
theorem dX10_areRight_50 : decode cX10_areRight 50 = .ok (.bipush 40, 2) := by decide +kernel
theorem dX10_areRight_52 : decode cX10_areRight 52 = .ok (.iload_n 3, 1) := by decide +kernel
theorem dX10_areRight_53 : decode cX10_areRight 53 = .ok (.imul, 1) := by decide +kernel
theorem dX10_areRight_54 : decode cX10_areRight 54 = .ok (.iload 4, 2) := by decide +kernel
theorem dX10_areRight_56 : decode cX10_areRight 56 = .ok (.iadd, 1) := by decide +kernel
theorem dX10_areRight_57 : decode cX10_areRight 57 = .ok (.iaload, 1) := by decide +kernel
theorem dX10_areRight_58 : decode cX10_areRight 58 = .ok (.bipush 33, 2) := by decide +kernel
theorem dX10_areRight_60 : decode cX10_areRight 60 = .ok (.if_icmp .ne 44, 3) := by decide +kernel
theorem dX10_areRight_63 : decode cX10_areRight 63 = .ok (.aload_n 0, 1) := by decide +kernel
theorem dX10_areRight_64 : decode cX10_areRight 64 = .ok (.getfield 19, 3) := by decide +kernel
theorem dX10_areRight_67 : decode cX10_areRight 67 = .ok (.bipush 40, 2) := by decide +kernel
theorem dX10_areRight_69 : decode cX10_areRight 69 = .ok (.iload_n 3, 1) := by decide +kernel
theorem dX10_areRight_70 : decode cX10_areRight 70 = .ok (.imul, 1) := by decide +kernel
theorem dX10_areRight_71 : decode cX10_areRight 71 = .ok (.iload 4, 2) := by decide +kernel
theorem dX10_areRight_73 : decode cX10_areRight 73 = .ok (.iadd, 1) := by decide +kernel
theorem dX10_areRight_74 : decode cX10_areRight 74 = .ok (.laload, 1) := by decide +kernel
theorem dX10_areRight_75 : decode cX10_areRight 75 = .ok (.lconst 0, 1) := by decide +kernel
theorem dX10_areRight_76 : decode cX10_areRight 76 = .ok (.iload_n 3, 1) := by decide +kernel
theorem dX10_areRight_77 : decode cX10_areRight 77 = .ok (.iconst 1, 1) := by decide +kernel
theorem dX10_areRight_78 : decode cX10_areRight 78 = .ok (.isub, 1) := by decide +kernel
theorem dX10_areRight_79 : decode cX10_areRight 79 = .ok (.i2l, 1) := by decide +kernel
theorem dX10_areRight_80 : decode cX10_areRight 80 = .ok (.invokestatic 79, 3) := by decide +kernel
theorem dX10_areRight_83 : decode cX10_areRight 83 = .ok (.ifCond .eq 21, 3) := by decide +kernel
theorem dX10_areRight_86 : decode cX10_areRight 86 = .ok (.iload_n 2, 1) := by decide +kernel
theorem dX10_areRight_87 : decode cX10_areRight 87 = .ok (.iconst 1, 1) := by decide +kernel
theorem dX10_areRight_88 : decode cX10_areRight 88 = .ok (.aload_n 0, 1) := by decide +kernel
theorem dX10_areRight_89 : decode cX10_areRight 89 = .ok (.getfield 19, 3) := by decide +kernel
theorem dX10_areRight_92 : decode cX10_areRight 92 = .ok (.bipush 40, 2) := by decide +kernel
theorem dX10_areRight_94 : decode cX10_areRight 94 = .ok (.iload_n 3, 1) := by decide +kernel
theorem dX10_areRight_95 : decode cX10_areRight 95 = .ok (.imul, 1) := by decide +kernel
theorem dX10_areRight_96 : decode cX10_areRight 96 = .ok (.iload 4, 2) := by decide +kernel
theorem dX10_areRight_98 : decode cX10_areRight 98 = .ok (.iadd, 1) := by decide +kernel
theorem dX10_areRight_99 : decode cX10_areRight 99 = .ok (.laload, 1) := by decide +kernel
theorem dX10_areRight_100 : decode cX10_areRight 100 = .ok (.l2i, 1) := by decide +kernel
theorem dX10_areRight_101 : decode cX10_areRight 101 = .ok (.ishl, 1) := by decide +kernel
theorem dX10_areRight_102 : decode cX10_areRight 102 = .ok (.ior, 1) := by decide +kernel
theorem dX10_areRight_103 : decode cX10_areRight 103 = .ok (.istore_n 2, 1) := by decide +kernel
theorem dX10_areRight_104 : decode cX10_areRight 104 = .ok (.iinc 4 1, 3) := by decide +kernel
theorem dX10_areRight_107 : decode cX10_areRight 107 = .ok (.goto (-72), 3) := by decide +kernel
theorem dX10_areRight_110 : decode cX10_areRight 110 = .ok (.iinc 3 (-1), 3) := by decide +kernel
theorem dX10_areRight_113 : decode cX10_areRight 113 = .ok (.goto (-107), 3) := by decide +kernel
theorem dX10_areRight_116 : decode cX10_areRight 116 = .ok (.iconst 1, 1) := by decide +kernel
theorem dX10_areRight_117 : decode cX10_areRight 117 = .ok (.ireturn, 1) := by decide +kernel
theorem dX10_put_0 : decode cX10_put 0 = .ok (.aload_n 0, 1) := by decide +kernel
theorem dX10_put_1 : decode cX10_put 1 = .ok (.getfield 51, 3) := by decide +kernel
theorem dX10_put_4 : decode cX10_put 4 = .ok (.bipush 16, 2) := by decide +kernel
theorem dX10_put_6 : decode cX10_put 6 = .ok (.aload_n 0, 1) := by decide +kernel
theorem dX10_put_7 : decode cX10_put 7 = .ok (.getfield 235, 3) := by decide +kernel
theorem dX10_put_10 : decode cX10_put 10 = .ok (.imul, 1) := by decide +kernel
theorem dX10_put_11 : decode cX10_put 11 = .ok (.bipush 8, 2) := by decide +kernel
theorem dX10_put_13 : decode cX10_put 13 = .ok (.iadd, 1) := by decide +kernel
theorem dX10_put_14 : decode cX10_put 14 = .ok (.aload_n 0, 1) := by decide +kernel
theorem dX10_put_15 : decode cX10_put 15 = .ok (.getfield 54, 3) := by decide +kernel
theorem dX10_put_18 : decode cX10_put 18 = .ok (.aload_n 0, 1) := by decide +kernel
theorem dX10_put_19 : decode cX10_put 19 = .ok (.getfield 235, 3) := by decide +kernel
theorem dX10_put_22 : decode cX10_put 22 = .ok (.iaload, 1) := by decide +kernel
theorem dX10_put_23 : decode cX10_put 23 = .ok (.iadd, 1) := by decide +kernel
theorem dX10_put_24 : decode cX10_put 24 = .ok (.lload_n 1, 1) := by decide +kernel
theorem dX10_put_25 : decode cX10_put 25 = .ok (.lastore, 1) := by decide +kernel
theorem dX10_put_26 : decode cX10_put 26 = .ok (.aload_n 0, 1) := by decide +kernel
theorem dX10_put_27 : decode cX10_put 27 = .ok (.getfield 54, 3) := by decide +kernel
theorem dX10_put_30 : decode cX10_put 30 = .ok (.aload_n 0, 1) := by decide +kernel
theorem dX10_put_31 : decode cX10_put 31 = .ok (.getfield 235, 3) := by decide +kernel
theorem dX10_put_34 : decode cX10_put 34 = .ok (.dup2, 1) := by decide +kernel
theorem dX10_put_35 : decode cX10_put 35 = .ok (.iaload, 1) := by decide +kernel
theorem dX10_put_36 : decode cX10_put 36 = .ok (.iconst 1, 1) := by decide +kernel
theorem dX10_put_37 : decode cX10_put 37 = .ok (.iadd, 1) := by decide +kernel
theorem dX10_put_38 : decode cX10_put 38 = .ok (.iastore, 1) := by decide +kernel
theorem dX10_put_39 : decode cX10_put 39 = .ok (.return_, 1) := by decide +kernel
theorem dX10_take_0 : decode cX10_take 0 = .ok (.aload_n 0, 1) := by decide +kernel
theorem dX10_take_1 : decode cX10_take 1 = .ok (.getfield 54, 3) := by decide +kernel
theorem dX10_take_4 : decode cX10_take 4 = .ok (.aload_n 0, 1) := by decide +kernel
theorem dX10_take_5 : decode cX10_take 5 = .ok (.getfield 235, 3) := by decide +kernel
theorem dX10_take_8 : decode cX10_take 8 = .ok (.dup2, 1) := by decide +kernel
theorem dX10_take_9 : decode cX10_take 9 = .ok (.iaload, 1) := by decide +kernel
theorem dX10_take_10 : decode cX10_take 10 = .ok (.iconst 1, 1) := by decide +kernel
theorem dX10_take_11 : decode cX10_take 11 = .ok (.isub, 1) := by decide +kernel
theorem dX10_take_12 : decode cX10_take 12 = .ok (.iastore, 1) := by decide +kernel
theorem dX10_take_13 : decode cX10_take 13 = .ok (.aload_n 0, 1) := by decide +kernel
theorem dX10_take_14 : decode cX10_take 14 = .ok (.getfield 51, 3) := by decide +kernel
theorem dX10_take_17 : decode cX10_take 17 = .ok (.bipush 16, 2) := by decide +kernel
theorem dX10_take_19 : decode cX10_take 19 = .ok (.aload_n 0, 1) := by decide +kernel
theorem dX10_take_20 : decode cX10_take 20 = .ok (.getfield 235, 3) := by decide +kernel
theorem dX10_take_23 : decode cX10_take 23 = .ok (.imul, 1) := by decide +kernel
theorem dX10_take_24 : decode cX10_take 24 = .ok (.bipush 8, 2) := by decide +kernel
theorem dX10_take_26 : decode cX10_take 26 = .ok (.iadd, 1) := by decide +kernel
theorem dX10_take_27 : decode cX10_take 27 = .ok (.aload_n 0, 1) := by decide +kernel
theorem dX10_take_28 : decode cX10_take 28 = .ok (.getfield 54, 3) := by decide +kernel
theorem dX10_take_31 : decode cX10_take 31 = .ok (.aload_n 0, 1) := by decide +kernel
theorem dX10_take_32 : decode cX10_take 32 = .ok (.getfield 235, 3) := by decide +kernel
theorem dX10_take_35 : decode cX10_take 35 = .ok (.iaload, 1) := by decide +kernel
theorem dX10_take_36 : decode cX10_take 36 = .ok (.iadd, 1) := by decide +kernel
theorem dX10_take_37 : decode cX10_take 37 = .ok (.laload, 1) := by decide +kernel
theorem dX10_take_38 : decode cX10_take 38 = .ok (.lreturn, 1) := by decide +kernel
theorem dX10_putLong_0 : decode cX10_putLong 0 = .ok (.aload_n 0, 1) := by decide +kernel
theorem dX10_putLong_1 : decode cX10_putLong 1 = .ok (.lload_n 1, 1) := by decide +kernel
theorem dX10_putLong_2 : decode cX10_putLong 2 = .ok (.invokevirtual 238, 3) := by decide +kernel
theorem dX10_putLong_5 : decode cX10_putLong 5 = .ok (.aload_n 0, 1) := by decide +kernel
theorem dX10_putLong_6 : decode cX10_putLong 6 = .ok (.lconst 0, 1) := by decide +kernel
theorem dX10_putLong_7 : decode cX10_putLong 7 = .ok (.invokevirtual 238, 3) := by decide +kernel
theorem dX10_putLong_10 : decode cX10_putLong 10 = .ok (.return_, 1) := by decide +kernel
theorem dX10_takeLong_0 : decode cX10_takeLong 0 = .ok (.aload_n 0, 1) := by decide +kernel
theorem dX10_takeLong_1 : decode cX10_takeLong 1 = .ok (.getfield 54, 3) := by decide +kernel
theorem dX10_takeLong_4 : decode cX10_takeLong 4 = .ok (.aload_n 0, 1) := by decide +kernel
theorem dX10_takeLong_5 : decode cX10_takeLong 5 = .ok (.getfield 235, 3) := by decide +kernel
theorem dX10_takeLong_8 : decode cX10_takeLong 8 = .ok (.dup2, 1) := by decide +kernel
theorem dX10_takeLong_9 : decode cX10_takeLong 9 = .ok (.iaload, 1) := by decide +kernel
theorem dX10_takeLong_10 : decode cX10_takeLong 10 = .ok (.iconst 2, 1) := by decide +kernel
theorem dX10_takeLong_11 : decode cX10_takeLong 11 = .ok (.isub, 1) := by decide +kernel
theorem dX10_takeLong_12 : decode cX10_takeLong 12 = .ok (.iastore, 1) := by decide +kernel
theorem dX10_takeLong_13 : decode cX10_takeLong 13 = .ok (.aload_n 0, 1) := by decide +kernel
theorem dX10_takeLong_14 : decode cX10_takeLong 14 = .ok (.getfield 51, 3) := by decide +kernel
theorem dX10_takeLong_17 : decode cX10_takeLong 17 = .ok (.bipush 16, 2) := by decide +kernel
theorem dX10_takeLong_19 : decode cX10_takeLong 19 = .ok (.aload_n 0, 1) := by decide +kernel
theorem dX10_takeLong_20 : decode cX10_takeLong 20 = .ok (.getfield 235, 3) := by decide +kernel
theorem dX10_takeLong_23 : decode cX10_takeLong 23 = .ok (.imul, 1) := by decide +kernel
theorem dX10_takeLong_24 : decode cX10_takeLong 24 = .ok (.bipush 8, 2) := by decide +kernel
theorem dX10_takeLong_26 : decode cX10_takeLong 26 = .ok (.iadd, 1) := by decide +kernel
theorem dX10_takeLong_27 : decode cX10_takeLong 27 = .ok (.aload_n 0, 1) := by decide +kernel
theorem dX10_takeLong_28 : decode cX10_takeLong 28 = .ok (.getfield 54, 3) := by decide +kernel
theorem dX10_takeLong_31 : decode cX10_takeLong 31 = .ok (.aload_n 0, 1) := by decide +kernel
theorem dX10_takeLong_32 : decode cX10_takeLong 32 = .ok (.getfield 235, 3) := by decide +kernel
theorem dX10_takeLong_35 : decode cX10_takeLong 35 = .ok (.iaload, 1) := by decide +kernel
theorem dX10_takeLong_36 : decode cX10_takeLong 36 = .ok (.iadd, 1) := by decide +kernel
theorem dX10_takeLong_37 : decode cX10_takeLong 37 = .ok (.laload, 1) := by decide +kernel
theorem dX10_takeLong_38 : decode cX10_takeLong 38 = .ok (.lreturn, 1) := by decide +kernel
theorem dX10_run_0 : decode cX10_run 0 = .ok (.aload_n 0, 1) := by decide +kernel
theorem dX10_run_1 : decode cX10_run 1 = .ok (.iload_n 1, 1) := by decide +kernel
theorem dX10_run_2 : decode cX10_run 2 = .ok (.invokevirtual 130, 3) := by decide +kernel
theorem dX10_run_5 : decode cX10_run 5 = .ok (.ifCond .ne 5, 3) := by decide +kernel
theorem dX10_run_8 : decode cX10_run 8 = .ok (.iconst (-1), 1) := by decide +kernel
theorem dX10_run_9 : decode cX10_run 9 = .ok (.ireturn, 1) := by decide +kernel
theorem dX10_run_10 : decode cX10_run 10 = .ok (.aload_n 0, 1) := by decide +kernel
theorem dX10_run_11 : decode cX10_run 11 = .ok (.iload_n 1, 1) := by decide +kernel
theorem dX10_run_12 : decode cX10_run 12 = .ok (.invokevirtual 242, 3) := by decide +kernel
theorem dX10_run_15 : decode cX10_run 15 = .ok (.ifCond .ne 6, 3) := by decide +kernel
theorem dX10_run_18 : decode cX10_run 18 = .ok (.bipush (-2), 2) := by decide +kernel
theorem dX10_run_20 : decode cX10_run 20 = .ok (.ireturn, 1) := by decide +kernel
theorem dX10_run_21 : decode cX10_run 21 = .ok (.aload_n 0, 1) := by decide +kernel
theorem dX10_run_22 : decode cX10_run 22 = .ok (.iconst 1, 1) := by decide +kernel
theorem dX10_run_23 : decode cX10_run 23 = .ok (.putfield 245, 3) := by decide +kernel
theorem dX10_run_26 : decode cX10_run 26 = .ok (.aload_n 0, 1) := by decide +kernel
theorem dX10_run_27 : decode cX10_run 27 = .ok (.iconst 0, 1) := by decide +kernel
theorem dX10_run_28 : decode cX10_run 28 = .ok (.putfield 235, 3) := by decide +kernel
theorem dX10_run_31 : decode cX10_run 31 = .ok (.aload_n 0, 1) := by decide +kernel
theorem dX10_run_32 : decode cX10_run 32 = .ok (.getfield 57, 3) := by decide +kernel
theorem dX10_run_35 : decode cX10_run 35 = .ok (.iconst 0, 1) := by decide +kernel
theorem dX10_run_36 : decode cX10_run 36 = .ok (.iload_n 1, 1) := by decide +kernel
theorem dX10_run_37 : decode cX10_run 37 = .ok (.iastore, 1) := by decide +kernel
theorem dX10_run_38 : decode cX10_run 38 = .ok (.aload_n 0, 1) := by decide +kernel
theorem dX10_run_39 : decode cX10_run 39 = .ok (.getfield 60, 3) := by decide +kernel
theorem dX10_run_42 : decode cX10_run 42 = .ok (.iconst 0, 1) := by decide +kernel
theorem dX10_run_43 : decode cX10_run 43 = .ok (.iconst 0, 1) := by decide +kernel
theorem dX10_run_44 : decode cX10_run 44 = .ok (.iastore, 1) := by decide +kernel
theorem dX10_run_45 : decode cX10_run 45 = .ok (.aload_n 0, 1) := by decide +kernel
theorem dX10_run_46 : decode cX10_run 46 = .ok (.getfield 54, 3) := by decide +kernel
theorem dX10_run_49 : decode cX10_run 49 = .ok (.iconst 0, 1) := by decide +kernel
theorem dX10_run_50 : decode cX10_run 50 = .ok (.iconst 0, 1) := by decide +kernel
theorem dX10_run_51 : decode cX10_run 51 = .ok (.iastore, 1) := by decide +kernel
theorem dX10_run_52 : decode cX10_run 52 = .ok (.aload_n 0, 1) := by decide +kernel
theorem dX10_run_53 : decode cX10_run 53 = .ok (.getfield 51, 3) := by decide +kernel
theorem dX10_run_56 : decode cX10_run 56 = .ok (.iconst 0, 1) := by decide +kernel
theorem dX10_run_57 : decode cX10_run 57 = .ok (.iload_n 2, 1) := by decide +kernel
theorem dX10_run_58 : decode cX10_run 58 = .ok (.i2l, 1) := by decide +kernel
theorem dX10_run_59 : decode cX10_run 59 = .ok (.lastore, 1) := by decide +kernel
theorem dX10_run_60 : decode cX10_run 60 = .ok (.aload_n 0, 1) := by decide +kernel
theorem dX10_run_61 : decode cX10_run 61 = .ok (.getfield 51, 3) := by decide +kernel
theorem dX10_run_64 : decode cX10_run 64 = .ok (.iconst 1, 1) := by decide +kernel
theorem dX10_run_65 : decode cX10_run 65 = .ok (.iload_n 3, 1) := by decide +kernel
theorem dX10_run_66 : decode cX10_run 66 = .ok (.i2l, 1) := by decide +kernel
theorem dX10_run_67 : decode cX10_run 67 = .ok (.lastore, 1) := by decide +kernel
theorem dX10_run_68 : decode cX10_run 68 = .ok (.aload_n 0, 1) := by decide +kernel
theorem dX10_run_69 : decode cX10_run 69 = .ok (.getfield 51, 3) := by decide +kernel
theorem dX10_run_72 : decode cX10_run 72 = .ok (.iconst 2, 1) := by decide +kernel
theorem dX10_run_73 : decode cX10_run 73 = .ok (.iload 4, 2) := by decide +kernel
theorem dX10_run_75 : decode cX10_run 75 = .ok (.i2l, 1) := by decide +kernel
theorem dX10_run_76 : decode cX10_run 76 = .ok (.lastore, 1) := by decide +kernel
theorem dX10_run_77 : decode cX10_run 77 = .ok (.aload_n 0, 1) := by decide +kernel
theorem dX10_run_78 : decode cX10_run 78 = .ok (.getfield 51, 3) := by decide +kernel
theorem dX10_run_81 : decode cX10_run 81 = .ok (.iconst 3, 1) := by decide +kernel
theorem dX10_run_82 : decode cX10_run 82 = .ok (.iload 5, 2) := by decide +kernel
theorem dX10_run_84 : decode cX10_run 84 = .ok (.i2l, 1) := by decide +kernel
theorem dX10_run_85 : decode cX10_run 85 = .ok (.lastore, 1) := by decide +kernel
theorem dX10_run_86 : decode cX10_run 86 = .ok (.aload_n 0, 1) := by decide +kernel
theorem dX10_run_87 : decode cX10_run 87 = .ok (.iconst 0, 1) := by decide +kernel
theorem dX10_run_88 : decode cX10_run 88 = .ok (.putfield 248, 3) := by decide +kernel
theorem dX10_run_91 : decode cX10_run 91 = .ok (.aload_n 0, 1) := by decide +kernel
theorem dX10_run_92 : decode cX10_run 92 = .ok (.iconst 0, 1) := by decide +kernel
theorem dX10_run_93 : decode cX10_run 93 = .ok (.putfield 251, 3) := by decide +kernel
theorem dX10_run_96 : decode cX10_run 96 = .ok (.aload_n 0, 1) := by decide +kernel
theorem dX10_run_97 : decode cX10_run 97 = .ok (.iconst 0, 1) := by decide +kernel
theorem dX10_run_98 : decode cX10_run 98 = .ok (.putfield 254, 3) := by decide +kernel
theorem dX10_run_101 : decode cX10_run 101 = .ok (.aload_n 0, 1) := by decide +kernel
theorem dX10_run_102 : decode cX10_run 102 = .ok (.ldc 234, 2) := by decide +kernel
theorem dX10_run_104 : decode cX10_run 104 = .ok (.putfield 257, 3) := by decide +kernel
theorem dX10_run_107 : decode cX10_run 107 = .ok (.aload_n 0, 1) := by decide +kernel
theorem dX10_run_108 : decode cX10_run 108 = .ok (.ldc 234, 2) := by decide +kernel
theorem dX10_run_110 : decode cX10_run 110 = .ok (.putfield 260, 3) := by decide +kernel
theorem dX10_run_113 : decode cX10_run 113 = .ok (.aload_n 0, 1) := by decide +kernel
theorem dX10_run_114 : decode cX10_run 114 = .ok (.iconst 0, 1) := by decide +kernel
theorem dX10_run_115 : decode cX10_run 115 = .ok (.putfield 263, 3) := by decide +kernel
theorem dX10_run_118 : decode cX10_run 118 = .ok (.iconst (-1), 1) := by decide +kernel
theorem dX10_run_119 : decode cX10_run 119 = .ok (.istore 6, 2) := by decide +kernel
theorem dX10_run_121 : decode cX10_run 121 = .ok (.iload 6, 2) := by decide +kernel
theorem dX10_run_123 : decode cX10_run 123 = .ok (.ifCond .ge 43, 3) := by decide +kernel
theorem dX10_run_126 : decode cX10_run 126 = .ok (.aload_n 0, 1) := by decide +kernel
theorem dX10_run_127 : decode cX10_run 127 = .ok (.getfield 251, 3) := by decide +kernel
theorem dX10_run_130 : decode cX10_run 130 = .ok (.sipush 2000, 3) := by decide +kernel
theorem dX10_run_133 : decode cX10_run 133 = .ok (.if_icmp .ne 10, 3) := by decide +kernel
theorem dX10_run_136 : decode cX10_run 136 = .ok (.bipush 8, 2) := by decide +kernel
theorem dX10_run_138 : decode cX10_run 138 = .ok (.istore 6, 2) := by decide +kernel
theorem dX10_run_140 : decode cX10_run 140 = .ok (.goto (-19), 3) := by decide +kernel
theorem dX10_run_143 : decode cX10_run 143 = .ok (.aload_n 0, 1) := by decide +kernel
theorem dX10_run_144 : decode cX10_run 144 = .ok (.dup, 1) := by decide +kernel
theorem dX10_run_145 : decode cX10_run 145 = .ok (.getfield 251, 3) := by decide +kernel
theorem dX10_run_148 : decode cX10_run 148 = .ok (.iconst 1, 1) := by decide +kernel
theorem dX10_run_149 : decode cX10_run 149 = .ok (.iadd, 1) := by decide +kernel
end
section
theorem dX10_run_150 : decode cX10_run 150 = .ok (.putfield 251, 3) := by decide +kernel
theorem dX10_run_153 : decode cX10_run 153 = .ok (.aload_n 0, 1) := by decide +kernel
theorem dX10_run_154 : decode cX10_run 154 = .ok (.aload_n 0, 1) := by decide +kernel
theorem dX10_run_155 : decode cX10_run 155 = .ok (.invokevirtual 266, 3) := by decide +kernel
theorem dX10_run_158 : decode cX10_run 158 = .ok (.invokevirtual 270, 3) := by decide +kernel
theorem dX10_run_161 : decode cX10_run 161 = .ok (.istore 6, 2) := by decide +kernel
theorem dX10_run_163 : decode cX10_run 163 = .ok (.goto (-42), 3) := by decide +kernel
theorem dX10_run_166 : decode cX10_run 166 = .ok (.iload 6, 2) := by decide +kernel
theorem dX10_run_168 : decode cX10_run 168 = .ok (.ireturn, 1) := by decide +kernel
theorem dX10_after_0 : decode cX10_after 0 = .ok (.iload_n 1, 1) := by decide +kernel
theorem dX10_after_1 : decode cX10_after 1 = .ok (.ifCond .ne 5, 3) := by decide +kernel
theorem dX10_after_4 : decode cX10_after 4 = .ok (.iconst (-1), 1) := by decide +kernel
theorem dX10_after_5 : decode cX10_after 5 = .ok (.ireturn, 1) := by decide +kernel
theorem dX10_after_6 : decode cX10_after 6 = .ok (.iload_n 1, 1) := by decide +kernel
theorem dX10_after_7 : decode cX10_after 7 = .ok (.bipush 20, 2) := by decide +kernel
theorem dX10_after_9 : decode cX10_after 9 = .ok (.if_icmp .ne 5, 3) := by decide +kernel
theorem dX10_after_12 : decode cX10_after 12 = .ok (.iconst 0, 1) := by decide +kernel
theorem dX10_after_13 : decode cX10_after 13 = .ok (.ireturn, 1) := by decide +kernel
theorem dX10_after_14 : decode cX10_after 14 = .ok (.iload_n 1, 1) := by decide +kernel
theorem dX10_after_15 : decode cX10_after 15 = .ok (.bipush 9, 2) := by decide +kernel
theorem dX10_after_17 : decode cX10_after 17 = .ok (.if_icmp .ne 11, 3) := by decide +kernel
theorem dX10_after_20 : decode cX10_after 20 = .ok (.aload_n 0, 1) := by decide +kernel
theorem dX10_after_21 : decode cX10_after 21 = .ok (.iconst 0, 1) := by decide +kernel
theorem dX10_after_22 : decode cX10_after 22 = .ok (.putfield 263, 3) := by decide +kernel
theorem dX10_after_25 : decode cX10_after 25 = .ok (.bipush 9, 2) := by decide +kernel
theorem dX10_after_27 : decode cX10_after 27 = .ok (.ireturn, 1) := by decide +kernel
theorem dX10_after_28 : decode cX10_after 28 = .ok (.aload_n 0, 1) := by decide +kernel
theorem dX10_after_29 : decode cX10_after 29 = .ok (.dup, 1) := by decide +kernel
theorem dX10_after_30 : decode cX10_after 30 = .ok (.getfield 254, 3) := by decide +kernel
theorem dX10_after_33 : decode cX10_after 33 = .ok (.iconst 1, 1) := by decide +kernel
theorem dX10_after_34 : decode cX10_after 34 = .ok (.iadd, 1) := by decide +kernel
theorem dX10_after_35 : decode cX10_after 35 = .ok (.putfield 254, 3) := by decide +kernel
theorem dX10_after_38 : decode cX10_after 38 = .ok (.aload_n 0, 1) := by decide +kernel
theorem dX10_after_39 : decode cX10_after 39 = .ok (.aload_n 0, 1) := by decide +kernel
theorem dX10_after_40 : decode cX10_after 40 = .ok (.getfield 57, 3) := by decide +kernel
theorem dX10_after_43 : decode cX10_after 43 = .ok (.aload_n 0, 1) := by decide +kernel
theorem dX10_after_44 : decode cX10_after 44 = .ok (.getfield 235, 3) := by decide +kernel
theorem dX10_after_47 : decode cX10_after 47 = .ok (.iaload, 1) := by decide +kernel
theorem dX10_after_48 : decode cX10_after 48 = .ok (.putfield 257, 3) := by decide +kernel
theorem dX10_after_51 : decode cX10_after 51 = .ok (.aload_n 0, 1) := by decide +kernel
theorem dX10_after_52 : decode cX10_after 52 = .ok (.aload_n 0, 1) := by decide +kernel
theorem dX10_after_53 : decode cX10_after 53 = .ok (.getfield 60, 3) := by decide +kernel
theorem dX10_after_56 : decode cX10_after 56 = .ok (.aload_n 0, 1) := by decide +kernel
theorem dX10_after_57 : decode cX10_after 57 = .ok (.getfield 235, 3) := by decide +kernel
theorem dX10_after_60 : decode cX10_after 60 = .ok (.iaload, 1) := by decide +kernel
theorem dX10_after_61 : decode cX10_after 61 = .ok (.putfield 260, 3) := by decide +kernel
theorem dX10_after_64 : decode cX10_after 64 = .ok (.iload_n 1, 1) := by decide +kernel
theorem dX10_after_65 : decode cX10_after 65 = .ok (.bipush 7, 2) := by decide +kernel
theorem dX10_after_67 : decode cX10_after 67 = .ok (.if_icmp .ne 10, 3) := by decide +kernel
theorem dX10_after_70 : decode cX10_after 70 = .ok (.aload_n 0, 1) := by decide +kernel
theorem dX10_after_71 : decode cX10_after 71 = .ok (.getfield 273, 3) := by decide +kernel
theorem dX10_after_74 : decode cX10_after 74 = .ok (.goto 4, 3) := by decide +kernel
theorem dX10_after_77 : decode cX10_after 77 = .ok (.iload_n 1, 1) := by decide +kernel
theorem dX10_after_78 : decode cX10_after 78 = .ok (.istore_n 2, 1) := by decide +kernel
theorem dX10_after_79 : decode cX10_after 79 = .ok (.aload_n 0, 1) := by decide +kernel
theorem dX10_after_80 : decode cX10_after 80 = .ok (.getfield 254, 3) := by decide +kernel
theorem dX10_after_83 : decode cX10_after 83 = .ok (.bipush 13, 2) := by decide +kernel
theorem dX10_after_85 : decode cX10_after 85 = .ok (.if_icmp .ne 11, 3) := by decide +kernel
theorem dX10_after_88 : decode cX10_after 88 = .ok (.aload_n 0, 1) := by decide +kernel
theorem dX10_after_89 : decode cX10_after 89 = .ok (.iload_n 2, 1) := by decide +kernel
theorem dX10_after_90 : decode cX10_after 90 = .ok (.putfield 263, 3) := by decide +kernel
theorem dX10_after_93 : decode cX10_after 93 = .ok (.bipush 10, 2) := by decide +kernel
theorem dX10_after_95 : decode cX10_after 95 = .ok (.ireturn, 1) := by decide +kernel
theorem dX10_after_96 : decode cX10_after 96 = .ok (.aload_n 0, 1) := by decide +kernel
theorem dX10_after_97 : decode cX10_after 97 = .ok (.getfield 235, 3) := by decide +kernel
theorem dX10_after_100 : decode cX10_after 100 = .ok (.ifCond .lt 166, 3) := by decide +kernel
theorem dX10_after_103 : decode cX10_after 103 = .ok (.aload_n 0, 1) := by decide +kernel
theorem dX10_after_104 : decode cX10_after 104 = .ok (.getfield 57, 3) := by decide +kernel
theorem dX10_after_107 : decode cX10_after 107 = .ok (.aload_n 0, 1) := by decide +kernel
theorem dX10_after_108 : decode cX10_after 108 = .ok (.getfield 235, 3) := by decide +kernel
theorem dX10_after_111 : decode cX10_after 111 = .ok (.iaload, 1) := by decide +kernel
theorem dX10_after_112 : decode cX10_after 112 = .ok (.istore_n 3, 1) := by decide +kernel
theorem dX10_after_113 : decode cX10_after 113 = .ok (.iconst 0, 1) := by decide +kernel
theorem dX10_after_114 : decode cX10_after 114 = .ok (.istore 4, 2) := by decide +kernel
theorem dX10_after_116 : decode cX10_after 116 = .ok (.iload 4, 2) := by decide +kernel
theorem dX10_after_118 : decode cX10_after 118 = .ok (.aload_n 0, 1) := by decide +kernel
theorem dX10_after_119 : decode cX10_after 119 = .ok (.getfield 23, 3) := by decide +kernel
theorem dX10_after_122 : decode cX10_after 122 = .ok (.iload_n 3, 1) := by decide +kernel
theorem dX10_after_123 : decode cX10_after 123 = .ok (.iaload, 1) := by decide +kernel
theorem dX10_after_124 : decode cX10_after 124 = .ok (.if_icmp .ge 129, 3) := by decide +kernel
theorem dX10_after_127 : decode cX10_after 127 = .ok (.iconst 4, 1) := by decide +kernel
theorem dX10_after_128 : decode cX10_after 128 = .ok (.bipush 6, 2) := by decide +kernel
theorem dX10_after_130 : decode cX10_after 130 = .ok (.iload_n 3, 1) := by decide +kernel
theorem dX10_after_131 : decode cX10_after 131 = .ok (.imul, 1) := by decide +kernel
theorem dX10_after_132 : decode cX10_after 132 = .ok (.iload 4, 2) := by decide +kernel
theorem dX10_after_134 : decode cX10_after 134 = .ok (.iadd, 1) := by decide +kernel
theorem dX10_after_135 : decode cX10_after 135 = .ok (.imul, 1) := by decide +kernel
theorem dX10_after_136 : decode cX10_after 136 = .ok (.istore 5, 2) := by decide +kernel
theorem dX10_after_138 : decode cX10_after 138 = .ok (.aload_n 0, 1) := by decide +kernel
theorem dX10_after_139 : decode cX10_after 139 = .ok (.getfield 26, 3) := by decide +kernel
theorem dX10_after_142 : decode cX10_after 142 = .ok (.iload 5, 2) := by decide +kernel
theorem dX10_after_144 : decode cX10_after 144 = .ok (.iconst 3, 1) := by decide +kernel
theorem dX10_after_145 : decode cX10_after 145 = .ok (.iadd, 1) := by decide +kernel
theorem dX10_after_146 : decode cX10_after 146 = .ok (.iaload, 1) := by decide +kernel
theorem dX10_after_147 : decode cX10_after 147 = .ok (.ifCond .eq 16, 3) := by decide +kernel
theorem dX10_after_150 : decode cX10_after 150 = .ok (.aload_n 0, 1) := by decide +kernel
theorem dX10_after_151 : decode cX10_after 151 = .ok (.getfield 26, 3) := by decide +kernel
theorem dX10_after_154 : decode cX10_after 154 = .ok (.iload 5, 2) := by decide +kernel
theorem dX10_after_156 : decode cX10_after 156 = .ok (.iconst 3, 1) := by decide +kernel
theorem dX10_after_157 : decode cX10_after 157 = .ok (.iadd, 1) := by decide +kernel
theorem dX10_after_158 : decode cX10_after 158 = .ok (.iaload, 1) := by decide +kernel
theorem dX10_after_159 : decode cX10_after 159 = .ok (.iload_n 1, 1) := by decide +kernel
theorem dX10_after_160 : decode cX10_after 160 = .ok (.if_icmp .ne 7, 3) := by decide +kernel
theorem dX10_after_163 : decode cX10_after 163 = .ok (.iconst 1, 1) := by decide +kernel
theorem dX10_after_164 : decode cX10_after 164 = .ok (.goto 4, 3) := by decide +kernel
theorem dX10_after_167 : decode cX10_after 167 = .ok (.iconst 0, 1) := by decide +kernel
theorem dX10_after_168 : decode cX10_after 168 = .ok (.istore 6, 2) := by decide +kernel
theorem dX10_after_170 : decode cX10_after 170 = .ok (.iload 6, 2) := by decide +kernel
theorem dX10_after_172 : decode cX10_after 172 = .ok (.ifCond .eq 75, 3) := by decide +kernel
theorem dX10_after_175 : decode cX10_after 175 = .ok (.aload_n 0, 1) := by decide +kernel
theorem dX10_after_176 : decode cX10_after 176 = .ok (.getfield 60, 3) := by decide +kernel
theorem dX10_after_179 : decode cX10_after 179 = .ok (.aload_n 0, 1) := by decide +kernel
theorem dX10_after_180 : decode cX10_after 180 = .ok (.getfield 235, 3) := by decide +kernel
theorem dX10_after_183 : decode cX10_after 183 = .ok (.iaload, 1) := by decide +kernel
theorem dX10_after_184 : decode cX10_after 184 = .ok (.i2l, 1) := by decide +kernel
theorem dX10_after_185 : decode cX10_after 185 = .ok (.aload_n 0, 1) := by decide +kernel
theorem dX10_after_186 : decode cX10_after 186 = .ok (.getfield 26, 3) := by decide +kernel
theorem dX10_after_189 : decode cX10_after 189 = .ok (.iload 5, 2) := by decide +kernel
theorem dX10_after_191 : decode cX10_after 191 = .ok (.iaload, 1) := by decide +kernel
theorem dX10_after_192 : decode cX10_after 192 = .ok (.i2l, 1) := by decide +kernel
theorem dX10_after_193 : decode cX10_after 193 = .ok (.aload_n 0, 1) := by decide +kernel
theorem dX10_after_194 : decode cX10_after 194 = .ok (.getfield 26, 3) := by decide +kernel
theorem dX10_after_197 : decode cX10_after 197 = .ok (.iload 5, 2) := by decide +kernel
theorem dX10_after_199 : decode cX10_after 199 = .ok (.iconst 1, 1) := by decide +kernel
theorem dX10_after_200 : decode cX10_after 200 = .ok (.iadd, 1) := by decide +kernel
theorem dX10_after_201 : decode cX10_after 201 = .ok (.iaload, 1) := by decide +kernel
theorem dX10_after_202 : decode cX10_after 202 = .ok (.iconst 1, 1) := by decide +kernel
theorem dX10_after_203 : decode cX10_after 203 = .ok (.isub, 1) := by decide +kernel
theorem dX10_after_204 : decode cX10_after 204 = .ok (.i2l, 1) := by decide +kernel
theorem dX10_after_205 : decode cX10_after 205 = .ok (.invokestatic 79, 3) := by decide +kernel
theorem dX10_after_208 : decode cX10_after 208 = .ok (.ifCond .eq 39, 3) := by decide +kernel
theorem dX10_after_211 : decode cX10_after 211 = .ok (.aload_n 0, 1) := by decide +kernel
theorem dX10_after_212 : decode cX10_after 212 = .ok (.getfield 54, 3) := by decide +kernel
theorem dX10_after_215 : decode cX10_after 215 = .ok (.aload_n 0, 1) := by decide +kernel
theorem dX10_after_216 : decode cX10_after 216 = .ok (.getfield 235, 3) := by decide +kernel
theorem dX10_after_219 : decode cX10_after 219 = .ok (.iconst 0, 1) := by decide +kernel
theorem dX10_after_220 : decode cX10_after 220 = .ok (.iastore, 1) := by decide +kernel
theorem dX10_after_221 : decode cX10_after 221 = .ok (.aload_n 0, 1) := by decide +kernel
theorem dX10_after_222 : decode cX10_after 222 = .ok (.iload_n 2, 1) := by decide +kernel
theorem dX10_after_223 : decode cX10_after 223 = .ok (.i2l, 1) := by decide +kernel
theorem dX10_after_224 : decode cX10_after 224 = .ok (.invokevirtual 238, 3) := by decide +kernel
theorem dX10_after_227 : decode cX10_after 227 = .ok (.aload_n 0, 1) := by decide +kernel
theorem dX10_after_228 : decode cX10_after 228 = .ok (.getfield 60, 3) := by decide +kernel
theorem dX10_after_231 : decode cX10_after 231 = .ok (.aload_n 0, 1) := by decide +kernel
theorem dX10_after_232 : decode cX10_after 232 = .ok (.getfield 235, 3) := by decide +kernel
theorem dX10_after_235 : decode cX10_after 235 = .ok (.aload_n 0, 1) := by decide +kernel
theorem dX10_after_236 : decode cX10_after 236 = .ok (.getfield 26, 3) := by decide +kernel
theorem dX10_after_239 : decode cX10_after 239 = .ok (.iload 5, 2) := by decide +kernel
theorem dX10_after_241 : decode cX10_after 241 = .ok (.iconst 2, 1) := by decide +kernel
theorem dX10_after_242 : decode cX10_after 242 = .ok (.iadd, 1) := by decide +kernel
theorem dX10_after_243 : decode cX10_after 243 = .ok (.iaload, 1) := by decide +kernel
theorem dX10_after_244 : decode cX10_after 244 = .ok (.iastore, 1) := by decide +kernel
theorem dX10_after_245 : decode cX10_after 245 = .ok (.iconst (-1), 1) := by decide +kernel
theorem dX10_after_246 : decode cX10_after 246 = .ok (.ireturn, 1) := by decide +kernel
theorem dX10_after_247 : decode cX10_after 247 = .ok (.iinc 4 1, 3) := by decide +kernel
theorem dX10_after_250 : decode cX10_after 250 = .ok (.goto (-134), 3) := by decide +kernel
theorem dX10_after_253 : decode cX10_after 253 = .ok (.aload_n 0, 1) := by decide +kernel
theorem dX10_after_254 : decode cX10_after 254 = .ok (.dup, 1) := by decide +kernel
theorem dX10_after_255 : decode cX10_after 255 = .ok (.getfield 235, 3) := by decide +kernel
theorem dX10_after_258 : decode cX10_after 258 = .ok (.iconst 1, 1) := by decide +kernel
theorem dX10_after_259 : decode cX10_after 259 = .ok (.isub, 1) := by decide +kernel
theorem dX10_after_260 : decode cX10_after 260 = .ok (.putfield 235, 3) := by decide +kernel
theorem dX10_after_263 : decode cX10_after 263 = .ok (.goto (-167), 3) := by decide +kernel
theorem dX10_after_266 : decode cX10_after 266 = .ok (.aload_n 0, 1) := by decide +kernel
theorem dX10_after_267 : decode cX10_after 267 = .ok (.iload_n 2, 1) := by decide +kernel
theorem dX10_after_268 : decode cX10_after 268 = .ok (.putfield 263, 3) := by decide +kernel
theorem dX10_after_271 : decode cX10_after 271 = .ok (.iload_n 1, 1) := by decide +kernel
theorem dX10_after_272 : decode cX10_after 272 = .ok (.ireturn, 1) := by decide +kernel
theorem dX10_arith_0 : decode cX10_arith 0 = .ok (.lload_n 0, 1) := by decide +kernel
theorem dX10_arith_1 : decode cX10_arith 1 = .ok (.lconst 0, 1) := by decide +kernel
theorem dX10_arith_2 : decode cX10_arith 2 = .ok (.lcmp, 1) := by decide +kernel
theorem dX10_arith_3 : decode cX10_arith 3 = .ok (.ifCond .ne 9, 3) := by decide +kernel
theorem dX10_arith_6 : decode cX10_arith 6 = .ok (.iload_n 2, 1) := by decide +kernel
theorem dX10_arith_7 : decode cX10_arith 7 = .ok (.iload_n 3, 1) := by decide +kernel
theorem dX10_arith_8 : decode cX10_arith 8 = .ok (.iadd, 1) := by decide +kernel
theorem dX10_arith_9 : decode cX10_arith 9 = .ok (.goto 46, 3) := by decide +kernel
theorem dX10_arith_12 : decode cX10_arith 12 = .ok (.lload_n 0, 1) := by decide +kernel
theorem dX10_arith_13 : decode cX10_arith 13 = .ok (.lconst 1, 1) := by decide +kernel
theorem dX10_arith_14 : decode cX10_arith 14 = .ok (.lcmp, 1) := by decide +kernel
theorem dX10_arith_15 : decode cX10_arith 15 = .ok (.ifCond .ne 9, 3) := by decide +kernel
theorem dX10_arith_18 : decode cX10_arith 18 = .ok (.iload_n 2, 1) := by decide +kernel
theorem dX10_arith_19 : decode cX10_arith 19 = .ok (.iload_n 3, 1) := by decide +kernel
theorem dX10_arith_20 : decode cX10_arith 20 = .ok (.isub, 1) := by decide +kernel
theorem dX10_arith_21 : decode cX10_arith 21 = .ok (.goto 34, 3) := by decide +kernel
theorem dX10_arith_24 : decode cX10_arith 24 = .ok (.lload_n 0, 1) := by decide +kernel
theorem dX10_arith_25 : decode cX10_arith 25 = .ok (.ldc2_w 276, 3) := by decide +kernel
theorem dX10_arith_28 : decode cX10_arith 28 = .ok (.lcmp, 1) := by decide +kernel
theorem dX10_arith_29 : decode cX10_arith 29 = .ok (.ifCond .ne 9, 3) := by decide +kernel
theorem dX10_arith_32 : decode cX10_arith 32 = .ok (.iload_n 2, 1) := by decide +kernel
theorem dX10_arith_33 : decode cX10_arith 33 = .ok (.iload_n 3, 1) := by decide +kernel
theorem dX10_arith_34 : decode cX10_arith 34 = .ok (.imul, 1) := by decide +kernel
theorem dX10_arith_35 : decode cX10_arith 35 = .ok (.goto 20, 3) := by decide +kernel
theorem dX10_arith_38 : decode cX10_arith 38 = .ok (.lload_n 0, 1) := by decide +kernel
theorem dX10_arith_39 : decode cX10_arith 39 = .ok (.ldc2_w 278, 3) := by decide +kernel
theorem dX10_arith_42 : decode cX10_arith 42 = .ok (.lcmp, 1) := by decide +kernel
theorem dX10_arith_43 : decode cX10_arith 43 = .ok (.ifCond .ne 9, 3) := by decide +kernel
theorem dX10_arith_46 : decode cX10_arith 46 = .ok (.iload_n 2, 1) := by decide +kernel
theorem dX10_arith_47 : decode cX10_arith 47 = .ok (.iload_n 3, 1) := by decide +kernel
theorem dX10_arith_48 : decode cX10_arith 48 = .ok (.idiv, 1) := by decide +kernel
theorem dX10_arith_49 : decode cX10_arith 49 = .ok (.goto 6, 3) := by decide +kernel
theorem dX10_arith_52 : decode cX10_arith 52 = .ok (.iload_n 2, 1) := by decide +kernel
theorem dX10_arith_53 : decode cX10_arith 53 = .ok (.iload_n 3, 1) := by decide +kernel
theorem dX10_arith_54 : decode cX10_arith 54 = .ok (.irem, 1) := by decide +kernel
theorem dX10_arith_55 : decode cX10_arith 55 = .ok (.ireturn, 1) := by decide +kernel
theorem dX10_arithLong_0 : decode cX10_arithLong 0 = .ok (.lload_n 0, 1) := by decide +kernel
theorem dX10_arithLong_1 : decode cX10_arithLong 1 = .ok (.lconst 0, 1) := by decide +kernel
theorem dX10_arithLong_2 : decode cX10_arithLong 2 = .ok (.lcmp, 1) := by decide +kernel
theorem dX10_arithLong_3 : decode cX10_arithLong 3 = .ok (.ifCond .ne 10, 3) := by decide +kernel
theorem dX10_arithLong_6 : decode cX10_arithLong 6 = .ok (.lload_n 2, 1) := by decide +kernel
theorem dX10_arithLong_7 : decode cX10_arithLong 7 = .ok (.lload 4, 2) := by decide +kernel
theorem dX10_arithLong_9 : decode cX10_arithLong 9 = .ok (.ladd, 1) := by decide +kernel
theorem dX10_arithLong_10 : decode cX10_arithLong 10 = .ok (.goto 50, 3) := by decide +kernel
theorem dX10_arithLong_13 : decode cX10_arithLong 13 = .ok (.lload_n 0, 1) := by decide +kernel
theorem dX10_arithLong_14 : decode cX10_arithLong 14 = .ok (.lconst 1, 1) := by decide +kernel
theorem dX10_arithLong_15 : decode cX10_arithLong 15 = .ok (.lcmp, 1) := by decide +kernel
theorem dX10_arithLong_16 : decode cX10_arithLong 16 = .ok (.ifCond .ne 10, 3) := by decide +kernel
theorem dX10_arithLong_19 : decode cX10_arithLong 19 = .ok (.lload_n 2, 1) := by decide +kernel
theorem dX10_arithLong_20 : decode cX10_arithLong 20 = .ok (.lload 4, 2) := by decide +kernel
theorem dX10_arithLong_22 : decode cX10_arithLong 22 = .ok (.lsub, 1) := by decide +kernel
theorem dX10_arithLong_23 : decode cX10_arithLong 23 = .ok (.goto 37, 3) := by decide +kernel
theorem dX10_arithLong_26 : decode cX10_arithLong 26 = .ok (.lload_n 0, 1) := by decide +kernel
theorem dX10_arithLong_27 : decode cX10_arithLong 27 = .ok (.ldc2_w 276, 3) := by decide +kernel
theorem dX10_arithLong_30 : decode cX10_arithLong 30 = .ok (.lcmp, 1) := by decide +kernel
theorem dX10_arithLong_31 : decode cX10_arithLong 31 = .ok (.ifCond .ne 10, 3) := by decide +kernel
theorem dX10_arithLong_34 : decode cX10_arithLong 34 = .ok (.lload_n 2, 1) := by decide +kernel
theorem dX10_arithLong_35 : decode cX10_arithLong 35 = .ok (.lload 4, 2) := by decide +kernel
theorem dX10_arithLong_37 : decode cX10_arithLong 37 = .ok (.lmul, 1) := by decide +kernel
theorem dX10_arithLong_38 : decode cX10_arithLong 38 = .ok (.goto 22, 3) := by decide +kernel
theorem dX10_arithLong_41 : decode cX10_arithLong 41 = .ok (.lload_n 0, 1) := by decide +kernel
theorem dX10_arithLong_42 : decode cX10_arithLong 42 = .ok (.ldc2_w 278, 3) := by decide +kernel
theorem dX10_arithLong_45 : decode cX10_arithLong 45 = .ok (.lcmp, 1) := by decide +kernel
theorem dX10_arithLong_46 : decode cX10_arithLong 46 = .ok (.ifCond .ne 10, 3) := by decide +kernel
theorem dX10_arithLong_49 : decode cX10_arithLong 49 = .ok (.lload_n 2, 1) := by decide +kernel
theorem dX10_arithLong_50 : decode cX10_arithLong 50 = .ok (.lload 4, 2) := by decide +kernel
theorem dX10_arithLong_52 : decode cX10_arithLong 52 = .ok (.ldiv, 1) := by decide +kernel
theorem dX10_arithLong_53 : decode cX10_arithLong 53 = .ok (.goto 7, 3) := by decide +kernel
theorem dX10_arithLong_56 : decode cX10_arithLong 56 = .ok (.lload_n 2, 1) := by decide +kernel
theorem dX10_arithLong_57 : decode cX10_arithLong 57 = .ok (.lload 4, 2) := by decide +kernel
theorem dX10_arithLong_59 : decode cX10_arithLong 59 = .ok (.lrem, 1) := by decide +kernel
theorem dX10_arithLong_60 : decode cX10_arithLong 60 = .ok (.lreturn, 1) := by decide +kernel
theorem dX10_works_0 : decode cX10_works 0 = .ok (.aload_n 0, 1) := by decide +kernel
theorem dX10_works_1 : decode cX10_works 1 = .ok (.getfield 57, 3) := by decide +kernel
theorem dX10_works_4 : decode cX10_works 4 = .ok (.aload_n 0, 1) := by decide +kernel
theorem dX10_works_5 : decode cX10_works 5 = .ok (.getfield 235, 3) := by decide +kernel
theorem dX10_works_8 : decode cX10_works 8 = .ok (.iaload, 1) := by decide +kernel
theorem dX10_works_9 : decode cX10_works 9 = .ok (.istore_n 1, 1) := by decide +kernel
theorem dX10_works_10 : decode cX10_works 10 = .ok (.aload_n 0, 1) := by decide +kernel
theorem dX10_works_11 : decode cX10_works 11 = .ok (.getfield 60, 3) := by decide +kernel
theorem dX10_works_14 : decode cX10_works 14 = .ok (.aload_n 0, 1) := by decide +kernel
theorem dX10_works_15 : decode cX10_works 15 = .ok (.getfield 235, 3) := by decide +kernel
theorem dX10_works_18 : decode cX10_works 18 = .ok (.iaload, 1) := by decide +kernel
theorem dX10_works_19 : decode cX10_works 19 = .ok (.istore_n 2, 1) := by decide +kernel
theorem dX10_works_20 : decode cX10_works 20 = .ok (.aload_n 0, 1) := by decide +kernel
theorem dX10_works_21 : decode cX10_works 21 = .ok (.getfield 16, 3) := by decide +kernel
theorem dX10_works_24 : decode cX10_works 24 = .ok (.bipush 40, 2) := by decide +kernel
theorem dX10_works_26 : decode cX10_works 26 = .ok (.iload_n 1, 1) := by decide +kernel
theorem dX10_works_27 : decode cX10_works 27 = .ok (.imul, 1) := by decide +kernel
theorem dX10_works_28 : decode cX10_works 28 = .ok (.iload_n 2, 1) := by decide +kernel
theorem dX10_works_29 : decode cX10_works 29 = .ok (.iadd, 1) := by decide +kernel
theorem dX10_works_30 : decode cX10_works 30 = .ok (.iaload, 1) := by decide +kernel
theorem dX10_works_31 : decode cX10_works 31 = .ok (.istore_n 3, 1) := by decide +kernel
theorem dX10_works_32 : decode cX10_works 32 = .ok (.aload_n 0, 1) := by decide +kernel
theorem dX10_works_33 : decode cX10_works 33 = .ok (.getfield 19, 3) := by decide +kernel
theorem dX10_works_36 : decode cX10_works 36 = .ok (.bipush 40, 2) := by decide +kernel
theorem dX10_works_38 : decode cX10_works 38 = .ok (.iload_n 1, 1) := by decide +kernel
theorem dX10_works_39 : decode cX10_works 39 = .ok (.imul, 1) := by decide +kernel
theorem dX10_works_40 : decode cX10_works 40 = .ok (.iload_n 2, 1) := by decide +kernel
theorem dX10_works_41 : decode cX10_works 41 = .ok (.iadd, 1) := by decide +kernel
theorem dX10_works_42 : decode cX10_works 42 = .ok (.laload, 1) := by decide +kernel
theorem dX10_works_43 : decode cX10_works 43 = .ok (.lstore 4, 2) := by decide +kernel
theorem dX10_works_45 : decode cX10_works 45 = .ok (.iload_n 3, 1) := by decide +kernel
theorem dX10_works_46 : decode cX10_works 46 = .ok (.bipush 14, 2) := by decide +kernel
theorem dX10_works_48 : decode cX10_works 48 = .ok (.if_icmp .ge 13, 3) := by decide +kernel
theorem dX10_works_51 : decode cX10_works 51 = .ok (.aload_n 0, 1) := by decide +kernel
theorem dX10_works_52 : decode cX10_works 52 = .ok (.iload_n 3, 1) := by decide +kernel
theorem dX10_works_53 : decode cX10_works 53 = .ok (.lload 4, 2) := by decide +kernel
theorem dX10_works_55 : decode cX10_works 55 = .ok (.invokevirtual 280, 3) := by decide +kernel
theorem dX10_works_58 : decode cX10_works 58 = .ok (.goto 26, 3) := by decide +kernel
theorem dX10_works_61 : decode cX10_works 61 = .ok (.iload_n 3, 1) := by decide +kernel
theorem dX10_works_62 : decode cX10_works 62 = .ok (.bipush 26, 2) := by decide +kernel
theorem dX10_works_64 : decode cX10_works 64 = .ok (.if_icmp .ge 13, 3) := by decide +kernel
theorem dX10_works_67 : decode cX10_works 67 = .ok (.aload_n 0, 1) := by decide +kernel
theorem dX10_works_68 : decode cX10_works 68 = .ok (.iload_n 3, 1) := by decide +kernel
theorem dX10_works_69 : decode cX10_works 69 = .ok (.lload 4, 2) := by decide +kernel
theorem dX10_works_71 : decode cX10_works 71 = .ok (.invokevirtual 284, 3) := by decide +kernel
theorem dX10_works_74 : decode cX10_works 74 = .ok (.goto 10, 3) := by decide +kernel
theorem dX10_works_77 : decode cX10_works 77 = .ok (.aload_n 0, 1) := by decide +kernel
theorem dX10_works_78 : decode cX10_works 78 = .ok (.iload_n 3, 1) := by decide +kernel
theorem dX10_works_79 : decode cX10_works 79 = .ok (.lload 4, 2) := by decide +kernel
theorem dX10_works_81 : decode cX10_works 81 = .ok (.invokevirtual 287, 3) := by decide +kernel
theorem dX10_works_84 : decode cX10_works 84 = .ok (.istore 6, 2) := by decide +kernel
theorem dX10_works_86 : decode cX10_works 86 = .ok (.iload 6, 2) := by decide +kernel
theorem dX10_works_88 : decode cX10_works 88 = .ok (.ifCond .ne 16, 3) := by decide +kernel
theorem dX10_works_91 : decode cX10_works 91 = .ok (.aload_n 0, 1) := by decide +kernel
theorem dX10_works_92 : decode cX10_works 92 = .ok (.getfield 60, 3) := by decide +kernel
theorem dX10_works_95 : decode cX10_works 95 = .ok (.aload_n 0, 1) := by decide +kernel
theorem dX10_works_96 : decode cX10_works 96 = .ok (.getfield 235, 3) := by decide +kernel
theorem dX10_works_99 : decode cX10_works 99 = .ok (.dup2, 1) := by decide +kernel
theorem dX10_works_100 : decode cX10_works 100 = .ok (.iaload, 1) := by decide +kernel
theorem dX10_works_101 : decode cX10_works 101 = .ok (.iconst 1, 1) := by decide +kernel
theorem dX10_works_102 : decode cX10_works 102 = .ok (.iadd, 1) := by decide +kernel
theorem dX10_works_103 : decode cX10_works 103 = .ok (.iastore, 1) := by decide +kernel
theorem dX10_works_104 : decode cX10_works 104 = .ok (.iload 6, 2) := by decide +kernel
theorem dX10_works_106 : decode cX10_works 106 = .ok (.bipush 21, 2) := by decide +kernel
theorem dX10_works_108 : decode cX10_works 108 = .ok (.if_icmp .ne 7, 3) := by decide +kernel
theorem dX10_works_111 : decode cX10_works 111 = .ok (.iconst 0, 1) := by decide +kernel
theorem dX10_works_112 : decode cX10_works 112 = .ok (.goto 5, 3) := by decide +kernel
theorem dX10_works_115 : decode cX10_works 115 = .ok (.iload 6, 2) := by decide +kernel
theorem dX10_works_117 : decode cX10_works 117 = .ok (.ireturn, 1) := by decide +kernel
theorem dX10_simple_0 : decode cX10_simple 0 = .ok (.bipush 16, 2) := by decide +kernel
theorem dX10_simple_2 : decode cX10_simple 2 = .ok (.aload_n 0, 1) := by decide +kernel
theorem dX10_simple_3 : decode cX10_simple 3 = .ok (.getfield 235, 3) := by decide +kernel
theorem dX10_simple_6 : decode cX10_simple 6 = .ok (.imul, 1) := by decide +kernel
theorem dX10_simple_7 : decode cX10_simple 7 = .ok (.istore 4, 2) := by decide +kernel
theorem dX10_simple_9 : decode cX10_simple 9 = .ok (.iload_n 1, 1) := by decide +kernel
theorem dX10_simple_10 : decode cX10_simple 10 = .ok (.tableswitch 319 0 12 #[66, 75, 82, 91, 107, 135, 107, 151, 196, 240, 250, 262, 293], 66) := by decide +kernel
theorem dX10_simple_76 : decode cX10_simple 76 = .ok (.aload_n 0, 1) := by decide +kernel
theorem dX10_simple_77 : decode cX10_simple 77 = .ok (.lload_n 2, 1) := by decide +kernel
theorem dX10_simple_78 : decode cX10_simple 78 = .ok (.l2i, 1) := by decide +kernel
theorem dX10_simple_79 : decode cX10_simple 79 = .ok (.i2l, 1) := by decide +kernel
theorem dX10_simple_80 : decode cX10_simple 80 = .ok (.invokevirtual 238, 3) := by decide +kernel
theorem dX10_simple_83 : decode cX10_simple 83 = .ok (.iconst 0, 1) := by decide +kernel
theorem dX10_simple_84 : decode cX10_simple 84 = .ok (.ireturn, 1) := by decide +kernel
theorem dX10_simple_85 : decode cX10_simple 85 = .ok (.aload_n 0, 1) := by decide +kernel
theorem dX10_simple_86 : decode cX10_simple 86 = .ok (.lload_n 2, 1) := by decide +kernel
theorem dX10_simple_87 : decode cX10_simple 87 = .ok (.invokevirtual 290, 3) := by decide +kernel
theorem dX10_simple_90 : decode cX10_simple 90 = .ok (.iconst 0, 1) := by decide +kernel
theorem dX10_simple_91 : decode cX10_simple 91 = .ok (.ireturn, 1) := by decide +kernel
theorem dX10_simple_92 : decode cX10_simple 92 = .ok (.aload_n 0, 1) := by decide +kernel
theorem dX10_simple_93 : decode cX10_simple 93 = .ok (.ldc2_w 141, 3) := by decide +kernel
theorem dX10_simple_96 : decode cX10_simple 96 = .ok (.invokevirtual 238, 3) := by decide +kernel
theorem dX10_simple_99 : decode cX10_simple 99 = .ok (.iconst 0, 1) := by decide +kernel
theorem dX10_simple_100 : decode cX10_simple 100 = .ok (.ireturn, 1) := by decide +kernel
theorem dX10_simple_101 : decode cX10_simple 101 = .ok (.aload_n 0, 1) := by decide +kernel
theorem dX10_simple_102 : decode cX10_simple 102 = .ok (.aload_n 0, 1) := by decide +kernel
theorem dX10_simple_103 : decode cX10_simple 103 = .ok (.getfield 51, 3) := by decide +kernel
theorem dX10_simple_106 : decode cX10_simple 106 = .ok (.iload 4, 2) := by decide +kernel
theorem dX10_simple_108 : decode cX10_simple 108 = .ok (.lload_n 2, 1) := by decide +kernel
theorem dX10_simple_109 : decode cX10_simple 109 = .ok (.l2i, 1) := by decide +kernel
theorem dX10_simple_110 : decode cX10_simple 110 = .ok (.iadd, 1) := by decide +kernel
theorem dX10_simple_111 : decode cX10_simple 111 = .ok (.laload, 1) := by decide +kernel
theorem dX10_simple_112 : decode cX10_simple 112 = .ok (.invokevirtual 238, 3) := by decide +kernel
theorem dX10_simple_115 : decode cX10_simple 115 = .ok (.iconst 0, 1) := by decide +kernel
theorem dX10_simple_116 : decode cX10_simple 116 = .ok (.ireturn, 1) := by decide +kernel
theorem dX10_simple_117 : decode cX10_simple 117 = .ok (.aload_n 0, 1) := by decide +kernel
theorem dX10_simple_118 : decode cX10_simple 118 = .ok (.getfield 51, 3) := by decide +kernel
theorem dX10_simple_121 : decode cX10_simple 121 = .ok (.iload 4, 2) := by decide +kernel
theorem dX10_simple_123 : decode cX10_simple 123 = .ok (.lload_n 2, 1) := by decide +kernel
theorem dX10_simple_124 : decode cX10_simple 124 = .ok (.l2i, 1) := by decide +kernel
theorem dX10_simple_125 : decode cX10_simple 125 = .ok (.iadd, 1) := by decide +kernel
theorem dX10_simple_126 : decode cX10_simple 126 = .ok (.iload_n 1, 1) := by decide +kernel
theorem dX10_simple_127 : decode cX10_simple 127 = .ok (.iconst 4, 1) := by decide +kernel
theorem dX10_simple_128 : decode cX10_simple 128 = .ok (.if_icmp .ne 10, 3) := by decide +kernel
theorem dX10_simple_131 : decode cX10_simple 131 = .ok (.aload_n 0, 1) := by decide +kernel
theorem dX10_simple_132 : decode cX10_simple 132 = .ok (.invokevirtual 293, 3) := by decide +kernel
theorem dX10_simple_135 : decode cX10_simple 135 = .ok (.goto 7, 3) := by decide +kernel
theorem dX10_simple_138 : decode cX10_simple 138 = .ok (.aload_n 0, 1) := by decide +kernel
theorem dX10_simple_139 : decode cX10_simple 139 = .ok (.invokevirtual 297, 3) := by decide +kernel
theorem dX10_simple_142 : decode cX10_simple 142 = .ok (.lastore, 1) := by decide +kernel
theorem dX10_simple_143 : decode cX10_simple 143 = .ok (.iconst 0, 1) := by decide +kernel
theorem dX10_simple_144 : decode cX10_simple 144 = .ok (.ireturn, 1) := by decide +kernel
theorem dX10_simple_145 : decode cX10_simple 145 = .ok (.aload_n 0, 1) := by decide +kernel
theorem dX10_simple_146 : decode cX10_simple 146 = .ok (.aload_n 0, 1) := by decide +kernel
theorem dX10_simple_147 : decode cX10_simple 147 = .ok (.getfield 51, 3) := by decide +kernel
theorem dX10_simple_150 : decode cX10_simple 150 = .ok (.iload 4, 2) := by decide +kernel
theorem dX10_simple_152 : decode cX10_simple 152 = .ok (.lload_n 2, 1) := by decide +kernel
theorem dX10_simple_153 : decode cX10_simple 153 = .ok (.l2i, 1) := by decide +kernel
theorem dX10_simple_154 : decode cX10_simple 154 = .ok (.iadd, 1) := by decide +kernel
theorem dX10_simple_155 : decode cX10_simple 155 = .ok (.laload, 1) := by decide +kernel
theorem dX10_simple_156 : decode cX10_simple 156 = .ok (.invokevirtual 290, 3) := by decide +kernel
theorem dX10_simple_159 : decode cX10_simple 159 = .ok (.iconst 0, 1) := by decide +kernel
theorem dX10_simple_160 : decode cX10_simple 160 = .ok (.ireturn, 1) := by decide +kernel
theorem dX10_simple_161 : decode cX10_simple 161 = .ok (.aload_n 0, 1) := by decide +kernel
theorem dX10_simple_162 : decode cX10_simple 162 = .ok (.invokevirtual 293, 3) := by decide +kernel
theorem dX10_simple_165 : decode cX10_simple 165 = .ok (.l2i, 1) := by decide +kernel
theorem dX10_simple_166 : decode cX10_simple 166 = .ok (.istore 5, 2) := by decide +kernel
theorem dX10_simple_168 : decode cX10_simple 168 = .ok (.aload_n 0, 1) := by decide +kernel
theorem dX10_simple_169 : decode cX10_simple 169 = .ok (.invokevirtual 293, 3) := by decide +kernel
theorem dX10_simple_172 : decode cX10_simple 172 = .ok (.l2i, 1) := by decide +kernel
theorem dX10_simple_173 : decode cX10_simple 173 = .ok (.istore 6, 2) := by decide +kernel
theorem dX10_simple_175 : decode cX10_simple 175 = .ok (.lload_n 2, 1) := by decide +kernel
theorem dX10_simple_176 : decode cX10_simple 176 = .ok (.ldc2_w 276, 3) := by decide +kernel
theorem dX10_simple_179 : decode cX10_simple 179 = .ok (.lcmp, 1) := by decide +kernel
theorem dX10_simple_180 : decode cX10_simple 180 = .ok (.ifCond .le 11, 3) := by decide +kernel
theorem dX10_simple_183 : decode cX10_simple 183 = .ok (.iload 5, 2) := by decide +kernel
theorem dX10_simple_185 : decode cX10_simple 185 = .ok (.ifCond .ne 6, 3) := by decide +kernel
theorem dX10_simple_188 : decode cX10_simple 188 = .ok (.bipush 6, 2) := by decide +kernel
theorem dX10_simple_190 : decode cX10_simple 190 = .ok (.ireturn, 1) := by decide +kernel
theorem dX10_simple_191 : decode cX10_simple 191 = .ok (.aload_n 0, 1) := by decide +kernel
theorem dX10_simple_192 : decode cX10_simple 192 = .ok (.lload_n 2, 1) := by decide +kernel
theorem dX10_simple_193 : decode cX10_simple 193 = .ok (.iload 6, 2) := by decide +kernel
theorem dX10_simple_195 : decode cX10_simple 195 = .ok (.iload 5, 2) := by decide +kernel
theorem dX10_simple_197 : decode cX10_simple 197 = .ok (.invokestatic 300, 3) := by decide +kernel
theorem dX10_simple_200 : decode cX10_simple 200 = .ok (.i2l, 1) := by decide +kernel
theorem dX10_simple_201 : decode cX10_simple 201 = .ok (.invokevirtual 238, 3) := by decide +kernel
theorem dX10_simple_204 : decode cX10_simple 204 = .ok (.iconst 0, 1) := by decide +kernel
theorem dX10_simple_205 : decode cX10_simple 205 = .ok (.ireturn, 1) := by decide +kernel
theorem dX10_simple_206 : decode cX10_simple 206 = .ok (.aload_n 0, 1) := by decide +kernel
theorem dX10_simple_207 : decode cX10_simple 207 = .ok (.invokevirtual 297, 3) := by decide +kernel
theorem dX10_simple_210 : decode cX10_simple 210 = .ok (.lstore 7, 2) := by decide +kernel
theorem dX10_simple_212 : decode cX10_simple 212 = .ok (.aload_n 0, 1) := by decide +kernel
theorem dX10_simple_213 : decode cX10_simple 213 = .ok (.invokevirtual 297, 3) := by decide +kernel
theorem dX10_simple_216 : decode cX10_simple 216 = .ok (.lstore 9, 2) := by decide +kernel
theorem dX10_simple_218 : decode cX10_simple 218 = .ok (.lload_n 2, 1) := by decide +kernel
theorem dX10_simple_219 : decode cX10_simple 219 = .ok (.ldc2_w 276, 3) := by decide +kernel
theorem dX10_simple_222 : decode cX10_simple 222 = .ok (.lcmp, 1) := by decide +kernel
theorem dX10_simple_223 : decode cX10_simple 223 = .ok (.ifCond .le 13, 3) := by decide +kernel
theorem dX10_simple_226 : decode cX10_simple 226 = .ok (.lload 7, 2) := by decide +kernel
theorem dX10_simple_228 : decode cX10_simple 228 = .ok (.lconst 0, 1) := by decide +kernel
theorem dX10_simple_229 : decode cX10_simple 229 = .ok (.lcmp, 1) := by decide +kernel
theorem dX10_simple_230 : decode cX10_simple 230 = .ok (.ifCond .ne 6, 3) := by decide +kernel
theorem dX10_simple_233 : decode cX10_simple 233 = .ok (.bipush 6, 2) := by decide +kernel
theorem dX10_simple_235 : decode cX10_simple 235 = .ok (.ireturn, 1) := by decide +kernel
theorem dX10_simple_236 : decode cX10_simple 236 = .ok (.aload_n 0, 1) := by decide +kernel
theorem dX10_simple_237 : decode cX10_simple 237 = .ok (.lload_n 2, 1) := by decide +kernel
theorem dX10_simple_238 : decode cX10_simple 238 = .ok (.lload 9, 2) := by decide +kernel
theorem dX10_simple_240 : decode cX10_simple 240 = .ok (.lload 7, 2) := by decide +kernel
theorem dX10_simple_242 : decode cX10_simple 242 = .ok (.invokestatic 304, 3) := by decide +kernel
theorem dX10_simple_245 : decode cX10_simple 245 = .ok (.invokevirtual 290, 3) := by decide +kernel
theorem dX10_simple_248 : decode cX10_simple 248 = .ok (.iconst 0, 1) := by decide +kernel
theorem dX10_simple_249 : decode cX10_simple 249 = .ok (.ireturn, 1) := by decide +kernel
theorem dX10_simple_250 : decode cX10_simple 250 = .ok (.aload_n 0, 1) := by decide +kernel
theorem dX10_simple_251 : decode cX10_simple 251 = .ok (.aload_n 0, 1) := by decide +kernel
theorem dX10_simple_252 : decode cX10_simple 252 = .ok (.invokevirtual 293, 3) := by decide +kernel
theorem dX10_simple_255 : decode cX10_simple 255 = .ok (.invokevirtual 290, 3) := by decide +kernel
theorem dX10_simple_258 : decode cX10_simple 258 = .ok (.iconst 0, 1) := by decide +kernel
theorem dX10_simple_259 : decode cX10_simple 259 = .ok (.ireturn, 1) := by decide +kernel
theorem dX10_simple_260 : decode cX10_simple 260 = .ok (.aload_n 0, 1) := by decide +kernel
theorem dX10_simple_261 : decode cX10_simple 261 = .ok (.aload_n 0, 1) := by decide +kernel
theorem dX10_simple_262 : decode cX10_simple 262 = .ok (.invokevirtual 297, 3) := by decide +kernel
theorem dX10_simple_265 : decode cX10_simple 265 = .ok (.l2i, 1) := by decide +kernel
theorem dX10_simple_266 : decode cX10_simple 266 = .ok (.i2l, 1) := by decide +kernel
theorem dX10_simple_267 : decode cX10_simple 267 = .ok (.invokevirtual 238, 3) := by decide +kernel
theorem dX10_simple_270 : decode cX10_simple 270 = .ok (.iconst 0, 1) := by decide +kernel
theorem dX10_simple_271 : decode cX10_simple 271 = .ok (.ireturn, 1) := by decide +kernel
theorem dX10_simple_272 : decode cX10_simple 272 = .ok (.aload_n 0, 1) := by decide +kernel
theorem dX10_simple_273 : decode cX10_simple 273 = .ok (.invokevirtual 297, 3) := by decide +kernel
theorem dX10_simple_276 : decode cX10_simple 276 = .ok (.lstore 11, 2) := by decide +kernel
theorem dX10_simple_278 : decode cX10_simple 278 = .ok (.aload_n 0, 1) := by decide +kernel
theorem dX10_simple_279 : decode cX10_simple 279 = .ok (.invokevirtual 297, 3) := by decide +kernel
theorem dX10_simple_282 : decode cX10_simple 282 = .ok (.lstore 13, 2) := by decide +kernel
theorem dX10_simple_284 : decode cX10_simple 284 = .ok (.aload_n 0, 1) := by decide +kernel
theorem dX10_simple_285 : decode cX10_simple 285 = .ok (.lload 13, 2) := by decide +kernel
theorem dX10_simple_287 : decode cX10_simple 287 = .ok (.lload 11, 2) := by decide +kernel
theorem dX10_simple_289 : decode cX10_simple 289 = .ok (.lcmp, 1) := by decide +kernel
theorem dX10_simple_290 : decode cX10_simple 290 = .ok (.ifCond .ge 7, 3) := by decide +kernel
theorem dX10_simple_293 : decode cX10_simple 293 = .ok (.lconst 1, 1) := by decide +kernel
theorem dX10_simple_294 : decode cX10_simple 294 = .ok (.goto 4, 3) := by decide +kernel
theorem dX10_simple_297 : decode cX10_simple 297 = .ok (.lconst 0, 1) := by decide +kernel
theorem dX10_simple_298 : decode cX10_simple 298 = .ok (.invokevirtual 238, 3) := by decide +kernel
end
section
theorem dX10_simple_301 : decode cX10_simple 301 = .ok (.iconst 0, 1) := by decide +kernel
theorem dX10_simple_302 : decode cX10_simple 302 = .ok (.ireturn, 1) := by decide +kernel
theorem dX10_simple_303 : decode cX10_simple 303 = .ok (.aload_n 0, 1) := by decide +kernel
theorem dX10_simple_304 : decode cX10_simple 304 = .ok (.getfield 248, 3) := by decide +kernel
theorem dX10_simple_307 : decode cX10_simple 307 = .ok (.bipush 20, 2) := by decide +kernel
theorem dX10_simple_309 : decode cX10_simple 309 = .ok (.if_icmp .ne 6, 3) := by decide +kernel
theorem dX10_simple_312 : decode cX10_simple 312 = .ok (.bipush 9, 2) := by decide +kernel
theorem dX10_simple_314 : decode cX10_simple 314 = .ok (.ireturn, 1) := by decide +kernel
theorem dX10_simple_315 : decode cX10_simple 315 = .ok (.aload_n 0, 1) := by decide +kernel
theorem dX10_simple_316 : decode cX10_simple 316 = .ok (.aload_n 0, 1) := by decide +kernel
theorem dX10_simple_317 : decode cX10_simple 317 = .ok (.lload_n 2, 1) := by decide +kernel
theorem dX10_simple_318 : decode cX10_simple 318 = .ok (.l2i, 1) := by decide +kernel
theorem dX10_simple_319 : decode cX10_simple 319 = .ok (.iconst 0, 1) := by decide +kernel
theorem dX10_simple_320 : decode cX10_simple 320 = .ok (.invokevirtual 308, 3) := by decide +kernel
theorem dX10_simple_323 : decode cX10_simple 323 = .ok (.i2l, 1) := by decide +kernel
theorem dX10_simple_324 : decode cX10_simple 324 = .ok (.invokevirtual 238, 3) := by decide +kernel
theorem dX10_simple_327 : decode cX10_simple 327 = .ok (.iconst 0, 1) := by decide +kernel
theorem dX10_simple_328 : decode cX10_simple 328 = .ok (.ireturn, 1) := by decide +kernel
theorem dX10_simple_329 : decode cX10_simple 329 = .ok (.aload_n 0, 1) := by decide +kernel
theorem dX10_simple_330 : decode cX10_simple 330 = .ok (.invokevirtual 293, 3) := by decide +kernel
theorem dX10_simple_333 : decode cX10_simple 333 = .ok (.lstore 15, 2) := by decide +kernel
theorem dX10_simple_335 : decode cX10_simple 335 = .ok (.iconst 0, 1) := by decide +kernel
theorem dX10_simple_336 : decode cX10_simple 336 = .ok (.ireturn, 1) := by decide +kernel
theorem dX10_make_0 : decode cX10_make 0 = .ok (.aload_n 0, 1) := by decide +kernel
theorem dX10_make_1 : decode cX10_make 1 = .ok (.getfield 63, 3) := by decide +kernel
theorem dX10_make_4 : decode cX10_make 4 = .ok (.aload_n 0, 1) := by decide +kernel
theorem dX10_make_5 : decode cX10_make 5 = .ok (.getfield 248, 3) := by decide +kernel
theorem dX10_make_8 : decode cX10_make 8 = .ok (.iload_n 1, 1) := by decide +kernel
theorem dX10_make_9 : decode cX10_make 9 = .ok (.iastore, 1) := by decide +kernel
theorem dX10_make_10 : decode cX10_make 10 = .ok (.aload_n 0, 1) := by decide +kernel
theorem dX10_make_11 : decode cX10_make 11 = .ok (.getfield 66, 3) := by decide +kernel
theorem dX10_make_14 : decode cX10_make 14 = .ok (.aload_n 0, 1) := by decide +kernel
theorem dX10_make_15 : decode cX10_make 15 = .ok (.getfield 248, 3) := by decide +kernel
theorem dX10_make_18 : decode cX10_make 18 = .ok (.iload_n 2, 1) := by decide +kernel
theorem dX10_make_19 : decode cX10_make 19 = .ok (.iastore, 1) := by decide +kernel
theorem dX10_make_20 : decode cX10_make 20 = .ok (.aload_n 0, 1) := by decide +kernel
theorem dX10_make_21 : decode cX10_make 21 = .ok (.getfield 69, 3) := by decide +kernel
theorem dX10_make_24 : decode cX10_make 24 = .ok (.aload_n 0, 1) := by decide +kernel
theorem dX10_make_25 : decode cX10_make 25 = .ok (.getfield 248, 3) := by decide +kernel
theorem dX10_make_28 : decode cX10_make 28 = .ok (.iconst 0, 1) := by decide +kernel
theorem dX10_make_29 : decode cX10_make 29 = .ok (.iastore, 1) := by decide +kernel
theorem dX10_make_30 : decode cX10_make 30 = .ok (.iconst 0, 1) := by decide +kernel
theorem dX10_make_31 : decode cX10_make 31 = .ok (.istore_n 3, 1) := by decide +kernel
theorem dX10_make_32 : decode cX10_make 32 = .ok (.iload_n 3, 1) := by decide +kernel
theorem dX10_make_33 : decode cX10_make 33 = .ok (.iload_n 2, 1) := by decide +kernel
theorem dX10_make_34 : decode cX10_make 34 = .ok (.if_icmp .ge 36, 3) := by decide +kernel
theorem dX10_make_37 : decode cX10_make 37 = .ok (.aload_n 0, 1) := by decide +kernel
theorem dX10_make_38 : decode cX10_make 38 = .ok (.getfield 72, 3) := by decide +kernel
theorem dX10_make_41 : decode cX10_make 41 = .ok (.bipush 30, 2) := by decide +kernel
theorem dX10_make_43 : decode cX10_make 43 = .ok (.aload_n 0, 1) := by decide +kernel
theorem dX10_make_44 : decode cX10_make 44 = .ok (.getfield 248, 3) := by decide +kernel
theorem dX10_make_47 : decode cX10_make 47 = .ok (.imul, 1) := by decide +kernel
theorem dX10_make_48 : decode cX10_make 48 = .ok (.iload_n 3, 1) := by decide +kernel
theorem dX10_make_49 : decode cX10_make 49 = .ok (.iadd, 1) := by decide +kernel
theorem dX10_make_50 : decode cX10_make 50 = .ok (.iload_n 1, 1) := by decide +kernel
theorem dX10_make_51 : decode cX10_make 51 = .ok (.bipush 50, 2) := by decide +kernel
theorem dX10_make_53 : decode cX10_make 53 = .ok (.if_icmp .ne 7, 3) := by decide +kernel
theorem dX10_make_56 : decode cX10_make 56 = .ok (.lconst 0, 1) := by decide +kernel
theorem dX10_make_57 : decode cX10_make 57 = .ok (.goto 6, 3) := by decide +kernel
theorem dX10_make_60 : decode cX10_make 60 = .ok (.ldc2_w 141, 3) := by decide +kernel
theorem dX10_make_63 : decode cX10_make 63 = .ok (.lastore, 1) := by decide +kernel
theorem dX10_make_64 : decode cX10_make 64 = .ok (.iinc 3 1, 3) := by decide +kernel
theorem dX10_make_67 : decode cX10_make 67 = .ok (.goto (-35), 3) := by decide +kernel
theorem dX10_make_70 : decode cX10_make 70 = .ok (.aload_n 0, 1) := by decide +kernel
theorem dX10_make_71 : decode cX10_make 71 = .ok (.dup, 1) := by decide +kernel
theorem dX10_make_72 : decode cX10_make 72 = .ok (.getfield 248, 3) := by decide +kernel
theorem dX10_make_75 : decode cX10_make 75 = .ok (.iconst 1, 1) := by decide +kernel
theorem dX10_make_76 : decode cX10_make 76 = .ok (.iadd, 1) := by decide +kernel
theorem dX10_make_77 : decode cX10_make 77 = .ok (.putfield 248, 3) := by decide +kernel
theorem dX10_make_80 : decode cX10_make 80 = .ok (.aload_n 0, 1) := by decide +kernel
theorem dX10_make_81 : decode cX10_make 81 = .ok (.getfield 248, 3) := by decide +kernel
theorem dX10_make_84 : decode cX10_make 84 = .ok (.iconst 1, 1) := by decide +kernel
theorem dX10_make_85 : decode cX10_make 85 = .ok (.isub, 1) := by decide +kernel
theorem dX10_make_86 : decode cX10_make 86 = .ok (.ireturn, 1) := by decide +kernel
theorem dX10_isOf_0 : decode cX10_isOf 0 = .ok (.iload_n 2, 1) := by decide +kernel
theorem dX10_isOf_1 : decode cX10_isOf 1 = .ok (.ifCond .eq 27, 3) := by decide +kernel
theorem dX10_isOf_4 : decode cX10_isOf 4 = .ok (.aload_n 0, 1) := by decide +kernel
theorem dX10_isOf_5 : decode cX10_isOf 5 = .ok (.getfield 63, 3) := by decide +kernel
theorem dX10_isOf_8 : decode cX10_isOf 8 = .ok (.iload_n 1, 1) := by decide +kernel
theorem dX10_isOf_9 : decode cX10_isOf 9 = .ok (.iaload, 1) := by decide +kernel
theorem dX10_isOf_10 : decode cX10_isOf 10 = .ok (.bipush 6, 2) := by decide +kernel
theorem dX10_isOf_12 : decode cX10_isOf 12 = .ok (.if_icmp .ge 20, 3) := by decide +kernel
theorem dX10_isOf_15 : decode cX10_isOf 15 = .ok (.aload_n 0, 1) := by decide +kernel
theorem dX10_isOf_16 : decode cX10_isOf 16 = .ok (.getfield 63, 3) := by decide +kernel
theorem dX10_isOf_19 : decode cX10_isOf 19 = .ok (.iload_n 1, 1) := by decide +kernel
theorem dX10_isOf_20 : decode cX10_isOf 20 = .ok (.iaload, 1) := by decide +kernel
theorem dX10_isOf_21 : decode cX10_isOf 21 = .ok (.iload_n 2, 1) := by decide +kernel
theorem dX10_isOf_22 : decode cX10_isOf 22 = .ok (.invokestatic 111, 3) := by decide +kernel
theorem dX10_isOf_25 : decode cX10_isOf 25 = .ok (.ifCond .eq 7, 3) := by decide +kernel
theorem dX10_isOf_28 : decode cX10_isOf 28 = .ok (.iconst 1, 1) := by decide +kernel
theorem dX10_isOf_29 : decode cX10_isOf 29 = .ok (.goto 4, 3) := by decide +kernel
theorem dX10_isOf_32 : decode cX10_isOf 32 = .ok (.iconst 0, 1) := by decide +kernel
theorem dX10_isOf_33 : decode cX10_isOf 33 = .ok (.ireturn, 1) := by decide +kernel
theorem dX10_worth_0 : decode cX10_worth 0 = .ok (.aload_n 0, 1) := by decide +kernel
theorem dX10_worth_1 : decode cX10_worth 1 = .ok (.getfield 69, 3) := by decide +kernel
theorem dX10_worth_4 : decode cX10_worth 4 = .ok (.iload_n 1, 1) := by decide +kernel
theorem dX10_worth_5 : decode cX10_worth 5 = .ok (.iaload, 1) := by decide +kernel
theorem dX10_worth_6 : decode cX10_worth 6 = .ok (.istore_n 2, 1) := by decide +kernel
theorem dX10_worth_7 : decode cX10_worth 7 = .ok (.iconst 1, 1) := by decide +kernel
theorem dX10_worth_8 : decode cX10_worth 8 = .ok (.iload_n 2, 1) := by decide +kernel
theorem dX10_worth_9 : decode cX10_worth 9 = .ok (.iadd, 1) := by decide +kernel
theorem dX10_worth_10 : decode cX10_worth 10 = .ok (.istore_n 3, 1) := by decide +kernel
theorem dX10_worth_11 : decode cX10_worth 11 = .ok (.bipush 100, 2) := by decide +kernel
theorem dX10_worth_13 : decode cX10_worth 13 = .ok (.iload_n 2, 1) := by decide +kernel
theorem dX10_worth_14 : decode cX10_worth 14 = .ok (.iadd, 1) := by decide +kernel
theorem dX10_worth_15 : decode cX10_worth 15 = .ok (.istore 4, 2) := by decide +kernel
theorem dX10_worth_17 : decode cX10_worth 17 = .ok (.aload_n 0, 1) := by decide +kernel
theorem dX10_worth_18 : decode cX10_worth 18 = .ok (.getfield 63, 3) := by decide +kernel
theorem dX10_worth_21 : decode cX10_worth 21 = .ok (.iload_n 1, 1) := by decide +kernel
theorem dX10_worth_22 : decode cX10_worth 22 = .ok (.iaload, 1) := by decide +kernel
theorem dX10_worth_23 : decode cX10_worth 23 = .ok (.iconst 1, 1) := by decide +kernel
theorem dX10_worth_24 : decode cX10_worth 24 = .ok (.if_icmp .ne 7, 3) := by decide +kernel
theorem dX10_worth_27 : decode cX10_worth 27 = .ok (.iload_n 3, 1) := by decide +kernel
theorem dX10_worth_28 : decode cX10_worth 28 = .ok (.goto 60, 3) := by decide +kernel
theorem dX10_worth_31 : decode cX10_worth 31 = .ok (.aload_n 0, 1) := by decide +kernel
theorem dX10_worth_32 : decode cX10_worth 32 = .ok (.getfield 63, 3) := by decide +kernel
theorem dX10_worth_35 : decode cX10_worth 35 = .ok (.iload_n 1, 1) := by decide +kernel
theorem dX10_worth_36 : decode cX10_worth 36 = .ok (.iaload, 1) := by decide +kernel
theorem dX10_worth_37 : decode cX10_worth 37 = .ok (.iconst 2, 1) := by decide +kernel
theorem dX10_worth_38 : decode cX10_worth 38 = .ok (.if_icmp .ne 9, 3) := by decide +kernel
theorem dX10_worth_41 : decode cX10_worth 41 = .ok (.iconst 2, 1) := by decide +kernel
theorem dX10_worth_42 : decode cX10_worth 42 = .ok (.iload_n 3, 1) := by decide +kernel
theorem dX10_worth_43 : decode cX10_worth 43 = .ok (.imul, 1) := by decide +kernel
theorem dX10_worth_44 : decode cX10_worth 44 = .ok (.goto 44, 3) := by decide +kernel
theorem dX10_worth_47 : decode cX10_worth 47 = .ok (.aload_n 0, 1) := by decide +kernel
theorem dX10_worth_48 : decode cX10_worth 48 = .ok (.getfield 63, 3) := by decide +kernel
theorem dX10_worth_51 : decode cX10_worth 51 = .ok (.iload_n 1, 1) := by decide +kernel
theorem dX10_worth_52 : decode cX10_worth 52 = .ok (.iaload, 1) := by decide +kernel
theorem dX10_worth_53 : decode cX10_worth 53 = .ok (.iconst 3, 1) := by decide +kernel
theorem dX10_worth_54 : decode cX10_worth 54 = .ok (.if_icmp .ne 10, 3) := by decide +kernel
theorem dX10_worth_57 : decode cX10_worth 57 = .ok (.bipush 10, 2) := by decide +kernel
theorem dX10_worth_59 : decode cX10_worth 59 = .ok (.iload_n 3, 1) := by decide +kernel
theorem dX10_worth_60 : decode cX10_worth 60 = .ok (.iadd, 1) := by decide +kernel
theorem dX10_worth_61 : decode cX10_worth 61 = .ok (.goto 27, 3) := by decide +kernel
theorem dX10_worth_64 : decode cX10_worth 64 = .ok (.aload_n 0, 1) := by decide +kernel
theorem dX10_worth_65 : decode cX10_worth 65 = .ok (.getfield 63, 3) := by decide +kernel
theorem dX10_worth_68 : decode cX10_worth 68 = .ok (.iload_n 1, 1) := by decide +kernel
theorem dX10_worth_69 : decode cX10_worth 69 = .ok (.iaload, 1) := by decide +kernel
theorem dX10_worth_70 : decode cX10_worth 70 = .ok (.iconst 4, 1) := by decide +kernel
theorem dX10_worth_71 : decode cX10_worth 71 = .ok (.if_icmp .ne 15, 3) := by decide +kernel
theorem dX10_worth_74 : decode cX10_worth 74 = .ok (.iconst 2, 1) := by decide +kernel
theorem dX10_worth_75 : decode cX10_worth 75 = .ok (.iload_n 3, 1) := by decide +kernel
theorem dX10_worth_76 : decode cX10_worth 76 = .ok (.imul, 1) := by decide +kernel
theorem dX10_worth_77 : decode cX10_worth 77 = .ok (.bipush 10, 2) := by decide +kernel
theorem dX10_worth_79 : decode cX10_worth 79 = .ok (.isub, 1) := by decide +kernel
theorem dX10_worth_80 : decode cX10_worth 80 = .ok (.iload 4, 2) := by decide +kernel
theorem dX10_worth_82 : decode cX10_worth 82 = .ok (.iadd, 1) := by decide +kernel
theorem dX10_worth_83 : decode cX10_worth 83 = .ok (.goto 5, 3) := by decide +kernel
theorem dX10_worth_86 : decode cX10_worth 86 = .ok (.iload 4, 2) := by decide +kernel
theorem dX10_worth_88 : decode cX10_worth 88 = .ok (.ireturn, 1) := by decide +kernel
theorem dX10_ofThings_0 : decode cX10_ofThings 0 = .ok (.iconst 0, 1) := by decide +kernel
theorem dX10_ofThings_1 : decode cX10_ofThings 1 = .ok (.istore 4, 2) := by decide +kernel
theorem dX10_ofThings_3 : decode cX10_ofThings 3 = .ok (.iconst 0, 1) := by decide +kernel
theorem dX10_ofThings_4 : decode cX10_ofThings 4 = .ok (.istore 5, 2) := by decide +kernel
theorem dX10_ofThings_6 : decode cX10_ofThings 6 = .ok (.iload_n 1, 1) := by decide +kernel
theorem dX10_ofThings_7 : decode cX10_ofThings 7 = .ok (.tableswitch 440 14 24 #[57, 57, 119, 147, 216, 147, 216, 324, 374, 440, 408], 57) := by decide +kernel
theorem dX10_ofThings_64 : decode cX10_ofThings 64 = .ok (.aload_n 0, 1) := by decide +kernel
theorem dX10_ofThings_65 : decode cX10_ofThings 65 = .ok (.invokevirtual 293, 3) := by decide +kernel
theorem dX10_ofThings_68 : decode cX10_ofThings 68 = .ok (.l2i, 1) := by decide +kernel
theorem dX10_ofThings_69 : decode cX10_ofThings 69 = .ok (.istore 6, 2) := by decide +kernel
theorem dX10_ofThings_71 : decode cX10_ofThings 71 = .ok (.iload 6, 2) := by decide +kernel
theorem dX10_ofThings_73 : decode cX10_ofThings 73 = .ok (.ifCond .ge 5, 3) := by decide +kernel
theorem dX10_ofThings_76 : decode cX10_ofThings 76 = .ok (.iconst 5, 1) := by decide +kernel
theorem dX10_ofThings_77 : decode cX10_ofThings 77 = .ok (.ireturn, 1) := by decide +kernel
theorem dX10_ofThings_78 : decode cX10_ofThings 78 = .ok (.iload 6, 2) := by decide +kernel
theorem dX10_ofThings_80 : decode cX10_ofThings 80 = .ok (.bipush 30, 2) := by decide +kernel
theorem dX10_ofThings_82 : decode cX10_ofThings 82 = .ok (.if_icmp .gt 12, 3) := by decide +kernel
theorem dX10_ofThings_85 : decode cX10_ofThings 85 = .ok (.aload_n 0, 1) := by decide +kernel
theorem dX10_ofThings_86 : decode cX10_ofThings 86 = .ok (.getfield 248, 3) := by decide +kernel
theorem dX10_ofThings_89 : decode cX10_ofThings 89 = .ok (.bipush 20, 2) := by decide +kernel
theorem dX10_ofThings_91 : decode cX10_ofThings 91 = .ok (.if_icmp .ne 6, 3) := by decide +kernel
theorem dX10_ofThings_94 : decode cX10_ofThings 94 = .ok (.bipush 9, 2) := by decide +kernel
theorem dX10_ofThings_96 : decode cX10_ofThings 96 = .ok (.ireturn, 1) := by decide +kernel
theorem dX10_ofThings_97 : decode cX10_ofThings 97 = .ok (.aload_n 0, 1) := by decide +kernel
theorem dX10_ofThings_98 : decode cX10_ofThings 98 = .ok (.aload_n 0, 1) := by decide +kernel
theorem dX10_ofThings_99 : decode cX10_ofThings 99 = .ok (.iload_n 1, 1) := by decide +kernel
theorem dX10_ofThings_100 : decode cX10_ofThings 100 = .ok (.bipush 14, 2) := by decide +kernel
theorem dX10_ofThings_102 : decode cX10_ofThings 102 = .ok (.if_icmp .ne 8, 3) := by decide +kernel
theorem dX10_ofThings_105 : decode cX10_ofThings 105 = .ok (.bipush 50, 2) := by decide +kernel
theorem dX10_ofThings_107 : decode cX10_ofThings 107 = .ok (.goto 8, 3) := by decide +kernel
theorem dX10_ofThings_110 : decode cX10_ofThings 110 = .ok (.bipush 20, 2) := by decide +kernel
theorem dX10_ofThings_112 : decode cX10_ofThings 112 = .ok (.lload_n 2, 1) := by decide +kernel
theorem dX10_ofThings_113 : decode cX10_ofThings 113 = .ok (.l2i, 1) := by decide +kernel
theorem dX10_ofThings_114 : decode cX10_ofThings 114 = .ok (.iadd, 1) := by decide +kernel
theorem dX10_ofThings_115 : decode cX10_ofThings 115 = .ok (.iload 6, 2) := by decide +kernel
theorem dX10_ofThings_117 : decode cX10_ofThings 117 = .ok (.invokevirtual 308, 3) := by decide +kernel
theorem dX10_ofThings_120 : decode cX10_ofThings 120 = .ok (.i2l, 1) := by decide +kernel
theorem dX10_ofThings_121 : decode cX10_ofThings 121 = .ok (.invokevirtual 238, 3) := by decide +kernel
theorem dX10_ofThings_124 : decode cX10_ofThings 124 = .ok (.iconst 0, 1) := by decide +kernel
theorem dX10_ofThings_125 : decode cX10_ofThings 125 = .ok (.ireturn, 1) := by decide +kernel
theorem dX10_ofThings_126 : decode cX10_ofThings 126 = .ok (.aload_n 0, 1) := by decide +kernel
theorem dX10_ofThings_127 : decode cX10_ofThings 127 = .ok (.invokevirtual 293, 3) := by decide +kernel
theorem dX10_ofThings_130 : decode cX10_ofThings 130 = .ok (.l2i, 1) := by decide +kernel
theorem dX10_ofThings_131 : decode cX10_ofThings 131 = .ok (.istore 4, 2) := by decide +kernel
theorem dX10_ofThings_133 : decode cX10_ofThings 133 = .ok (.iload 4, 2) := by decide +kernel
theorem dX10_ofThings_135 : decode cX10_ofThings 135 = .ok (.ifCond .ge 5, 3) := by decide +kernel
theorem dX10_ofThings_138 : decode cX10_ofThings 138 = .ok (.iconst 1, 1) := by decide +kernel
theorem dX10_ofThings_139 : decode cX10_ofThings 139 = .ok (.ireturn, 1) := by decide +kernel
theorem dX10_ofThings_140 : decode cX10_ofThings 140 = .ok (.aload_n 0, 1) := by decide +kernel
theorem dX10_ofThings_141 : decode cX10_ofThings 141 = .ok (.aload_n 0, 1) := by decide +kernel
theorem dX10_ofThings_142 : decode cX10_ofThings 142 = .ok (.getfield 66, 3) := by decide +kernel
theorem dX10_ofThings_145 : decode cX10_ofThings 145 = .ok (.iload 4, 2) := by decide +kernel
theorem dX10_ofThings_147 : decode cX10_ofThings 147 = .ok (.iaload, 1) := by decide +kernel
theorem dX10_ofThings_148 : decode cX10_ofThings 148 = .ok (.i2l, 1) := by decide +kernel
theorem dX10_ofThings_149 : decode cX10_ofThings 149 = .ok (.invokevirtual 238, 3) := by decide +kernel
theorem dX10_ofThings_152 : decode cX10_ofThings 152 = .ok (.iconst 0, 1) := by decide +kernel
theorem dX10_ofThings_153 : decode cX10_ofThings 153 = .ok (.ireturn, 1) := by decide +kernel
theorem dX10_ofThings_154 : decode cX10_ofThings 154 = .ok (.aload_n 0, 1) := by decide +kernel
theorem dX10_ofThings_155 : decode cX10_ofThings 155 = .ok (.invokevirtual 293, 3) := by decide +kernel
theorem dX10_ofThings_158 : decode cX10_ofThings 158 = .ok (.l2i, 1) := by decide +kernel
theorem dX10_ofThings_159 : decode cX10_ofThings 159 = .ok (.istore 5, 2) := by decide +kernel
theorem dX10_ofThings_161 : decode cX10_ofThings 161 = .ok (.aload_n 0, 1) := by decide +kernel
theorem dX10_ofThings_162 : decode cX10_ofThings 162 = .ok (.invokevirtual 293, 3) := by decide +kernel
theorem dX10_ofThings_165 : decode cX10_ofThings 165 = .ok (.l2i, 1) := by decide +kernel
theorem dX10_ofThings_166 : decode cX10_ofThings 166 = .ok (.istore 4, 2) := by decide +kernel
theorem dX10_ofThings_168 : decode cX10_ofThings 168 = .ok (.iload 4, 2) := by decide +kernel
theorem dX10_ofThings_170 : decode cX10_ofThings 170 = .ok (.ifCond .lt 23, 3) := by decide +kernel
theorem dX10_ofThings_173 : decode cX10_ofThings 173 = .ok (.iload 5, 2) := by decide +kernel
theorem dX10_ofThings_175 : decode cX10_ofThings 175 = .ok (.i2l, 1) := by decide +kernel
theorem dX10_ofThings_176 : decode cX10_ofThings 176 = .ok (.lconst 0, 1) := by decide +kernel
theorem dX10_ofThings_177 : decode cX10_ofThings 177 = .ok (.aload_n 0, 1) := by decide +kernel
theorem dX10_ofThings_178 : decode cX10_ofThings 178 = .ok (.getfield 66, 3) := by decide +kernel
theorem dX10_ofThings_181 : decode cX10_ofThings 181 = .ok (.iload 4, 2) := by decide +kernel
theorem dX10_ofThings_183 : decode cX10_ofThings 183 = .ok (.iaload, 1) := by decide +kernel
theorem dX10_ofThings_184 : decode cX10_ofThings 184 = .ok (.iconst 1, 1) := by decide +kernel
theorem dX10_ofThings_185 : decode cX10_ofThings 185 = .ok (.isub, 1) := by decide +kernel
theorem dX10_ofThings_186 : decode cX10_ofThings 186 = .ok (.i2l, 1) := by decide +kernel
theorem dX10_ofThings_187 : decode cX10_ofThings 187 = .ok (.invokestatic 79, 3) := by decide +kernel
theorem dX10_ofThings_190 : decode cX10_ofThings 190 = .ok (.ifCond .ne 14, 3) := by decide +kernel
theorem dX10_ofThings_193 : decode cX10_ofThings 193 = .ok (.iload 4, 2) := by decide +kernel
theorem dX10_ofThings_195 : decode cX10_ofThings 195 = .ok (.ifCond .ge 7, 3) := by decide +kernel
theorem dX10_ofThings_198 : decode cX10_ofThings 198 = .ok (.iconst 1, 1) := by decide +kernel
theorem dX10_ofThings_199 : decode cX10_ofThings 199 = .ok (.goto 4, 3) := by decide +kernel
theorem dX10_ofThings_202 : decode cX10_ofThings 202 = .ok (.iconst 2, 1) := by decide +kernel
theorem dX10_ofThings_203 : decode cX10_ofThings 203 = .ok (.ireturn, 1) := by decide +kernel
theorem dX10_ofThings_204 : decode cX10_ofThings 204 = .ok (.aload_n 0, 1) := by decide +kernel
theorem dX10_ofThings_205 : decode cX10_ofThings 205 = .ok (.aload_n 0, 1) := by decide +kernel
theorem dX10_ofThings_206 : decode cX10_ofThings 206 = .ok (.getfield 72, 3) := by decide +kernel
theorem dX10_ofThings_209 : decode cX10_ofThings 209 = .ok (.bipush 30, 2) := by decide +kernel
theorem dX10_ofThings_211 : decode cX10_ofThings 211 = .ok (.iload 4, 2) := by decide +kernel
theorem dX10_ofThings_213 : decode cX10_ofThings 213 = .ok (.imul, 1) := by decide +kernel
theorem dX10_ofThings_214 : decode cX10_ofThings 214 = .ok (.iload 5, 2) := by decide +kernel
theorem dX10_ofThings_216 : decode cX10_ofThings 216 = .ok (.iadd, 1) := by decide +kernel
theorem dX10_ofThings_217 : decode cX10_ofThings 217 = .ok (.laload, 1) := by decide +kernel
theorem dX10_ofThings_218 : decode cX10_ofThings 218 = .ok (.invokevirtual 238, 3) := by decide +kernel
theorem dX10_ofThings_221 : decode cX10_ofThings 221 = .ok (.iconst 0, 1) := by decide +kernel
theorem dX10_ofThings_222 : decode cX10_ofThings 222 = .ok (.ireturn, 1) := by decide +kernel
theorem dX10_ofThings_223 : decode cX10_ofThings 223 = .ok (.aload_n 0, 1) := by decide +kernel
theorem dX10_ofThings_224 : decode cX10_ofThings 224 = .ok (.invokevirtual 293, 3) := by decide +kernel
theorem dX10_ofThings_227 : decode cX10_ofThings 227 = .ok (.lstore 7, 2) := by decide +kernel
theorem dX10_ofThings_229 : decode cX10_ofThings 229 = .ok (.aload_n 0, 1) := by decide +kernel
theorem dX10_ofThings_230 : decode cX10_ofThings 230 = .ok (.invokevirtual 293, 3) := by decide +kernel
theorem dX10_ofThings_233 : decode cX10_ofThings 233 = .ok (.l2i, 1) := by decide +kernel
theorem dX10_ofThings_234 : decode cX10_ofThings 234 = .ok (.istore 5, 2) := by decide +kernel
theorem dX10_ofThings_236 : decode cX10_ofThings 236 = .ok (.aload_n 0, 1) := by decide +kernel
theorem dX10_ofThings_237 : decode cX10_ofThings 237 = .ok (.invokevirtual 293, 3) := by decide +kernel
theorem dX10_ofThings_240 : decode cX10_ofThings 240 = .ok (.l2i, 1) := by decide +kernel
theorem dX10_ofThings_241 : decode cX10_ofThings 241 = .ok (.istore 4, 2) := by decide +kernel
theorem dX10_ofThings_243 : decode cX10_ofThings 243 = .ok (.iload 4, 2) := by decide +kernel
theorem dX10_ofThings_245 : decode cX10_ofThings 245 = .ok (.ifCond .lt 23, 3) := by decide +kernel
theorem dX10_ofThings_248 : decode cX10_ofThings 248 = .ok (.iload 5, 2) := by decide +kernel
theorem dX10_ofThings_250 : decode cX10_ofThings 250 = .ok (.i2l, 1) := by decide +kernel
theorem dX10_ofThings_251 : decode cX10_ofThings 251 = .ok (.lconst 0, 1) := by decide +kernel
theorem dX10_ofThings_252 : decode cX10_ofThings 252 = .ok (.aload_n 0, 1) := by decide +kernel
theorem dX10_ofThings_253 : decode cX10_ofThings 253 = .ok (.getfield 66, 3) := by decide +kernel
theorem dX10_ofThings_256 : decode cX10_ofThings 256 = .ok (.iload 4, 2) := by decide +kernel
theorem dX10_ofThings_258 : decode cX10_ofThings 258 = .ok (.iaload, 1) := by decide +kernel
theorem dX10_ofThings_259 : decode cX10_ofThings 259 = .ok (.iconst 1, 1) := by decide +kernel
theorem dX10_ofThings_260 : decode cX10_ofThings 260 = .ok (.isub, 1) := by decide +kernel
theorem dX10_ofThings_261 : decode cX10_ofThings 261 = .ok (.i2l, 1) := by decide +kernel
theorem dX10_ofThings_262 : decode cX10_ofThings 262 = .ok (.invokestatic 79, 3) := by decide +kernel
theorem dX10_ofThings_265 : decode cX10_ofThings 265 = .ok (.ifCond .ne 14, 3) := by decide +kernel
theorem dX10_ofThings_268 : decode cX10_ofThings 268 = .ok (.iload 4, 2) := by decide +kernel
theorem dX10_ofThings_270 : decode cX10_ofThings 270 = .ok (.ifCond .ge 7, 3) := by decide +kernel
theorem dX10_ofThings_273 : decode cX10_ofThings 273 = .ok (.iconst 1, 1) := by decide +kernel
theorem dX10_ofThings_274 : decode cX10_ofThings 274 = .ok (.goto 4, 3) := by decide +kernel
theorem dX10_ofThings_277 : decode cX10_ofThings 277 = .ok (.iconst 2, 1) := by decide +kernel
theorem dX10_ofThings_278 : decode cX10_ofThings 278 = .ok (.ireturn, 1) := by decide +kernel
theorem dX10_ofThings_279 : decode cX10_ofThings 279 = .ok (.iload_n 1, 1) := by decide +kernel
theorem dX10_ofThings_280 : decode cX10_ofThings 280 = .ok (.bipush 20, 2) := by decide +kernel
theorem dX10_ofThings_282 : decode cX10_ofThings 282 = .ok (.if_icmp .ne 32, 3) := by decide +kernel
theorem dX10_ofThings_285 : decode cX10_ofThings 285 = .ok (.lload 7, 2) := by decide +kernel
theorem dX10_ofThings_287 : decode cX10_ofThings 287 = .ok (.lconst 0, 1) := by decide +kernel
theorem dX10_ofThings_288 : decode cX10_ofThings 288 = .ok (.lcmp, 1) := by decide +kernel
theorem dX10_ofThings_289 : decode cX10_ofThings 289 = .ok (.ifCond .lt 25, 3) := by decide +kernel
theorem dX10_ofThings_292 : decode cX10_ofThings 292 = .ok (.aload_n 0, 1) := by decide +kernel
theorem dX10_ofThings_293 : decode cX10_ofThings 293 = .ok (.lload 7, 2) := by decide +kernel
theorem dX10_ofThings_295 : decode cX10_ofThings 295 = .ok (.l2i, 1) := by decide +kernel
theorem dX10_ofThings_296 : decode cX10_ofThings 296 = .ok (.aload_n 0, 1) := by decide +kernel
theorem dX10_ofThings_297 : decode cX10_ofThings 297 = .ok (.getfield 63, 3) := by decide +kernel
theorem dX10_ofThings_300 : decode cX10_ofThings 300 = .ok (.iload 4, 2) := by decide +kernel
theorem dX10_ofThings_302 : decode cX10_ofThings 302 = .ok (.iaload, 1) := by decide +kernel
theorem dX10_ofThings_303 : decode cX10_ofThings 303 = .ok (.bipush 20, 2) := by decide +kernel
theorem dX10_ofThings_305 : decode cX10_ofThings 305 = .ok (.isub, 1) := by decide +kernel
theorem dX10_ofThings_306 : decode cX10_ofThings 306 = .ok (.invokevirtual 311, 3) := by decide +kernel
theorem dX10_ofThings_309 : decode cX10_ofThings 309 = .ok (.ifCond .ne 5, 3) := by decide +kernel
theorem dX10_ofThings_312 : decode cX10_ofThings 312 = .ok (.iconst 3, 1) := by decide +kernel
theorem dX10_ofThings_313 : decode cX10_ofThings 313 = .ok (.ireturn, 1) := by decide +kernel
theorem dX10_ofThings_314 : decode cX10_ofThings 314 = .ok (.aload_n 0, 1) := by decide +kernel
theorem dX10_ofThings_315 : decode cX10_ofThings 315 = .ok (.getfield 72, 3) := by decide +kernel
theorem dX10_ofThings_318 : decode cX10_ofThings 318 = .ok (.bipush 30, 2) := by decide +kernel
theorem dX10_ofThings_320 : decode cX10_ofThings 320 = .ok (.iload 4, 2) := by decide +kernel
theorem dX10_ofThings_322 : decode cX10_ofThings 322 = .ok (.imul, 1) := by decide +kernel
theorem dX10_ofThings_323 : decode cX10_ofThings 323 = .ok (.iload 5, 2) := by decide +kernel
theorem dX10_ofThings_325 : decode cX10_ofThings 325 = .ok (.iadd, 1) := by decide +kernel
theorem dX10_ofThings_326 : decode cX10_ofThings 326 = .ok (.lload 7, 2) := by decide +kernel
theorem dX10_ofThings_328 : decode cX10_ofThings 328 = .ok (.lastore, 1) := by decide +kernel
theorem dX10_ofThings_329 : decode cX10_ofThings 329 = .ok (.iconst 0, 1) := by decide +kernel
theorem dX10_ofThings_330 : decode cX10_ofThings 330 = .ok (.ireturn, 1) := by decide +kernel
theorem dX10_ofThings_331 : decode cX10_ofThings 331 = .ok (.aload_n 0, 1) := by decide +kernel
theorem dX10_ofThings_332 : decode cX10_ofThings 332 = .ok (.getfield 51, 3) := by decide +kernel
theorem dX10_ofThings_335 : decode cX10_ofThings 335 = .ok (.bipush 16, 2) := by decide +kernel
theorem dX10_ofThings_337 : decode cX10_ofThings 337 = .ok (.aload_n 0, 1) := by decide +kernel
theorem dX10_ofThings_338 : decode cX10_ofThings 338 = .ok (.getfield 235, 3) := by decide +kernel
theorem dX10_ofThings_341 : decode cX10_ofThings 341 = .ok (.imul, 1) := by decide +kernel
theorem dX10_ofThings_342 : decode cX10_ofThings 342 = .ok (.bipush 7, 2) := by decide +kernel
theorem dX10_ofThings_344 : decode cX10_ofThings 344 = .ok (.iadd, 1) := by decide +kernel
theorem dX10_ofThings_345 : decode cX10_ofThings 345 = .ok (.aload_n 0, 1) := by decide +kernel
theorem dX10_ofThings_346 : decode cX10_ofThings 346 = .ok (.getfield 54, 3) := by decide +kernel
theorem dX10_ofThings_349 : decode cX10_ofThings 349 = .ok (.aload_n 0, 1) := by decide +kernel
theorem dX10_ofThings_350 : decode cX10_ofThings 350 = .ok (.getfield 235, 3) := by decide +kernel
theorem dX10_ofThings_353 : decode cX10_ofThings 353 = .ok (.iaload, 1) := by decide +kernel
theorem dX10_ofThings_354 : decode cX10_ofThings 354 = .ok (.iadd, 1) := by decide +kernel
theorem dX10_ofThings_355 : decode cX10_ofThings 355 = .ok (.laload, 1) := by decide +kernel
theorem dX10_ofThings_356 : decode cX10_ofThings 356 = .ok (.l2i, 1) := by decide +kernel
theorem dX10_ofThings_357 : decode cX10_ofThings 357 = .ok (.istore 4, 2) := by decide +kernel
theorem dX10_ofThings_359 : decode cX10_ofThings 359 = .ok (.iload 4, 2) := by decide +kernel
theorem dX10_ofThings_361 : decode cX10_ofThings 361 = .ok (.ifCond .lt 18, 3) := by decide +kernel
theorem dX10_ofThings_364 : decode cX10_ofThings 364 = .ok (.aload_n 0, 1) := by decide +kernel
theorem dX10_ofThings_365 : decode cX10_ofThings 365 = .ok (.iload 4, 2) := by decide +kernel
theorem dX10_ofThings_367 : decode cX10_ofThings 367 = .ok (.lload_n 2, 1) := by decide +kernel
theorem dX10_ofThings_368 : decode cX10_ofThings 368 = .ok (.l2i, 1) := by decide +kernel
theorem dX10_ofThings_369 : decode cX10_ofThings 369 = .ok (.invokevirtual 311, 3) := by decide +kernel
theorem dX10_ofThings_372 : decode cX10_ofThings 372 = .ok (.ifCond .ne 7, 3) := by decide +kernel
theorem dX10_ofThings_375 : decode cX10_ofThings 375 = .ok (.iconst 4, 1) := by decide +kernel
theorem dX10_ofThings_376 : decode cX10_ofThings 376 = .ok (.goto 4, 3) := by decide +kernel
theorem dX10_ofThings_379 : decode cX10_ofThings 379 = .ok (.iconst 0, 1) := by decide +kernel
theorem dX10_ofThings_380 : decode cX10_ofThings 380 = .ok (.ireturn, 1) := by decide +kernel
theorem dX10_ofThings_381 : decode cX10_ofThings 381 = .ok (.aload_n 0, 1) := by decide +kernel
theorem dX10_ofThings_382 : decode cX10_ofThings 382 = .ok (.invokevirtual 293, 3) := by decide +kernel
theorem dX10_ofThings_385 : decode cX10_ofThings 385 = .ok (.l2i, 1) := by decide +kernel
theorem dX10_ofThings_386 : decode cX10_ofThings 386 = .ok (.istore 4, 2) := by decide +kernel
theorem dX10_ofThings_388 : decode cX10_ofThings 388 = .ok (.aload_n 0, 1) := by decide +kernel
theorem dX10_ofThings_389 : decode cX10_ofThings 389 = .ok (.iload 4, 2) := by decide +kernel
theorem dX10_ofThings_391 : decode cX10_ofThings 391 = .ok (.ifCond .lt 18, 3) := by decide +kernel
theorem dX10_ofThings_394 : decode cX10_ofThings 394 = .ok (.aload_n 0, 1) := by decide +kernel
theorem dX10_ofThings_395 : decode cX10_ofThings 395 = .ok (.iload 4, 2) := by decide +kernel
theorem dX10_ofThings_397 : decode cX10_ofThings 397 = .ok (.lload_n 2, 1) := by decide +kernel
theorem dX10_ofThings_398 : decode cX10_ofThings 398 = .ok (.l2i, 1) := by decide +kernel
theorem dX10_ofThings_399 : decode cX10_ofThings 399 = .ok (.invokevirtual 311, 3) := by decide +kernel
theorem dX10_ofThings_402 : decode cX10_ofThings 402 = .ok (.ifCond .eq 7, 3) := by decide +kernel
theorem dX10_ofThings_405 : decode cX10_ofThings 405 = .ok (.lconst 1, 1) := by decide +kernel
theorem dX10_ofThings_406 : decode cX10_ofThings 406 = .ok (.goto 4, 3) := by decide +kernel
theorem dX10_ofThings_409 : decode cX10_ofThings 409 = .ok (.lconst 0, 1) := by decide +kernel
theorem dX10_ofThings_410 : decode cX10_ofThings 410 = .ok (.invokevirtual 238, 3) := by decide +kernel
theorem dX10_ofThings_413 : decode cX10_ofThings 413 = .ok (.iconst 0, 1) := by decide +kernel
theorem dX10_ofThings_414 : decode cX10_ofThings 414 = .ok (.ireturn, 1) := by decide +kernel
theorem dX10_ofThings_415 : decode cX10_ofThings 415 = .ok (.aload_n 0, 1) := by decide +kernel
theorem dX10_ofThings_416 : decode cX10_ofThings 416 = .ok (.invokevirtual 293, 3) := by decide +kernel
theorem dX10_ofThings_419 : decode cX10_ofThings 419 = .ok (.l2i, 1) := by decide +kernel
theorem dX10_ofThings_420 : decode cX10_ofThings 420 = .ok (.istore 5, 2) := by decide +kernel
theorem dX10_ofThings_422 : decode cX10_ofThings 422 = .ok (.aload_n 0, 1) := by decide +kernel
theorem dX10_ofThings_423 : decode cX10_ofThings 423 = .ok (.invokevirtual 293, 3) := by decide +kernel
theorem dX10_ofThings_426 : decode cX10_ofThings 426 = .ok (.l2i, 1) := by decide +kernel
theorem dX10_ofThings_427 : decode cX10_ofThings 427 = .ok (.istore 4, 2) := by decide +kernel
theorem dX10_ofThings_429 : decode cX10_ofThings 429 = .ok (.iload 4, 2) := by decide +kernel
theorem dX10_ofThings_431 : decode cX10_ofThings 431 = .ok (.ifCond .ge 5, 3) := by decide +kernel
theorem dX10_ofThings_434 : decode cX10_ofThings 434 = .ok (.iconst 1, 1) := by decide +kernel
theorem dX10_ofThings_435 : decode cX10_ofThings 435 = .ok (.ireturn, 1) := by decide +kernel
theorem dX10_ofThings_436 : decode cX10_ofThings 436 = .ok (.aload_n 0, 1) := by decide +kernel
theorem dX10_ofThings_437 : decode cX10_ofThings 437 = .ok (.getfield 69, 3) := by decide +kernel
theorem dX10_ofThings_440 : decode cX10_ofThings 440 = .ok (.iload 4, 2) := by decide +kernel
theorem dX10_ofThings_442 : decode cX10_ofThings 442 = .ok (.iload 5, 2) := by decide +kernel
theorem dX10_ofThings_444 : decode cX10_ofThings 444 = .ok (.iastore, 1) := by decide +kernel
theorem dX10_ofThings_445 : decode cX10_ofThings 445 = .ok (.iconst 0, 1) := by decide +kernel
theorem dX10_ofThings_446 : decode cX10_ofThings 446 = .ok (.ireturn, 1) := by decide +kernel
theorem dX10_ofThings_447 : decode cX10_ofThings 447 = .ok (.aload_n 0, 1) := by decide +kernel
theorem dX10_ofThings_448 : decode cX10_ofThings 448 = .ok (.invokevirtual 293, 3) := by decide +kernel
theorem dX10_ofThings_451 : decode cX10_ofThings 451 = .ok (.l2i, 1) := by decide +kernel
theorem dX10_ofThings_452 : decode cX10_ofThings 452 = .ok (.istore 4, 2) := by decide +kernel
theorem dX10_ofThings_454 : decode cX10_ofThings 454 = .ok (.iload 4, 2) := by decide +kernel
theorem dX10_ofThings_456 : decode cX10_ofThings 456 = .ok (.ifCond .ge 5, 3) := by decide +kernel
theorem dX10_ofThings_459 : decode cX10_ofThings 459 = .ok (.iconst 1, 1) := by decide +kernel
theorem dX10_ofThings_460 : decode cX10_ofThings 460 = .ok (.ireturn, 1) := by decide +kernel
theorem dX10_ofThings_461 : decode cX10_ofThings 461 = .ok (.aload_n 0, 1) := by decide +kernel
theorem dX10_ofThings_462 : decode cX10_ofThings 462 = .ok (.iload_n 1, 1) := by decide +kernel
theorem dX10_ofThings_463 : decode cX10_ofThings 463 = .ok (.bipush 23, 2) := by decide +kernel
theorem dX10_ofThings_465 : decode cX10_ofThings 465 = .ok (.if_icmp .ne 14, 3) := by decide +kernel
theorem dX10_ofThings_468 : decode cX10_ofThings 468 = .ok (.aload_n 0, 1) := by decide +kernel
theorem dX10_ofThings_469 : decode cX10_ofThings 469 = .ok (.getfield 69, 3) := by decide +kernel
theorem dX10_ofThings_472 : decode cX10_ofThings 472 = .ok (.iload 4, 2) := by decide +kernel
theorem dX10_ofThings_474 : decode cX10_ofThings 474 = .ok (.iaload, 1) := by decide +kernel
theorem dX10_ofThings_475 : decode cX10_ofThings 475 = .ok (.i2l, 1) := by decide +kernel
theorem dX10_ofThings_476 : decode cX10_ofThings 476 = .ok (.goto 10, 3) := by decide +kernel
theorem dX10_ofThings_479 : decode cX10_ofThings 479 = .ok (.aload_n 0, 1) := by decide +kernel
theorem dX10_ofThings_480 : decode cX10_ofThings 480 = .ok (.iload 4, 2) := by decide +kernel
theorem dX10_ofThings_482 : decode cX10_ofThings 482 = .ok (.invokevirtual 314, 3) := by decide +kernel
theorem dX10_ofThings_485 : decode cX10_ofThings 485 = .ok (.i2l, 1) := by decide +kernel
theorem dX10_ofThings_486 : decode cX10_ofThings 486 = .ok (.invokevirtual 238, 3) := by decide +kernel
theorem dX10_ofThings_489 : decode cX10_ofThings 489 = .ok (.iconst 0, 1) := by decide +kernel
theorem dX10_ofThings_490 : decode cX10_ofThings 490 = .ok (.ireturn, 1) := by decide +kernel
theorem dX10_others_0 : decode cX10_others 0 = .ok (.bipush 16, 2) := by decide +kernel
theorem dX10_others_2 : decode cX10_others 2 = .ok (.aload_n 0, 1) := by decide +kernel
theorem dX10_others_3 : decode cX10_others 3 = .ok (.getfield 235, 3) := by decide +kernel
theorem dX10_others_6 : decode cX10_others 6 = .ok (.imul, 1) := by decide +kernel
theorem dX10_others_7 : decode cX10_others 7 = .ok (.bipush 7, 2) := by decide +kernel
theorem dX10_others_9 : decode cX10_others 9 = .ok (.iadd, 1) := by decide +kernel
theorem dX10_others_10 : decode cX10_others 10 = .ok (.aload_n 0, 1) := by decide +kernel
theorem dX10_others_11 : decode cX10_others 11 = .ok (.getfield 54, 3) := by decide +kernel
theorem dX10_others_14 : decode cX10_others 14 = .ok (.aload_n 0, 1) := by decide +kernel
theorem dX10_others_15 : decode cX10_others 15 = .ok (.getfield 235, 3) := by decide +kernel
theorem dX10_others_18 : decode cX10_others 18 = .ok (.iaload, 1) := by decide +kernel
theorem dX10_others_19 : decode cX10_others 19 = .ok (.iadd, 1) := by decide +kernel
theorem dX10_others_20 : decode cX10_others 20 = .ok (.istore 4, 2) := by decide +kernel
theorem dX10_others_22 : decode cX10_others 22 = .ok (.aload_n 0, 1) := by decide +kernel
theorem dX10_others_23 : decode cX10_others 23 = .ok (.getfield 54, 3) := by decide +kernel
theorem dX10_others_26 : decode cX10_others 26 = .ok (.aload_n 0, 1) := by decide +kernel
theorem dX10_others_27 : decode cX10_others 27 = .ok (.getfield 235, 3) := by decide +kernel
theorem dX10_others_30 : decode cX10_others 30 = .ok (.iaload, 1) := by decide +kernel
theorem dX10_others_31 : decode cX10_others 31 = .ok (.ifCond .le 13, 3) := by decide +kernel
theorem dX10_others_34 : decode cX10_others 34 = .ok (.aload_n 0, 1) := by decide +kernel
theorem dX10_others_35 : decode cX10_others 35 = .ok (.getfield 51, 3) := by decide +kernel
theorem dX10_others_38 : decode cX10_others 38 = .ok (.iload 4, 2) := by decide +kernel
theorem dX10_others_40 : decode cX10_others 40 = .ok (.laload, 1) := by decide +kernel
theorem dX10_others_41 : decode cX10_others 41 = .ok (.goto 4, 3) := by decide +kernel
theorem dX10_others_44 : decode cX10_others 44 = .ok (.lconst 0, 1) := by decide +kernel
theorem dX10_others_45 : decode cX10_others 45 = .ok (.lstore 5, 2) := by decide +kernel
theorem dX10_others_47 : decode cX10_others 47 = .ok (.iload_n 1, 1) := by decide +kernel
theorem dX10_others_48 : decode cX10_others 48 = .ok (.tableswitch 220 26 33 #[48, 56, 71, 100, 114, 114, 162, 211], 48) := by decide +kernel
theorem dX10_others_96 : decode cX10_others 96 = .ok (.aload_n 0, 1) := by decide +kernel
theorem dX10_others_97 : decode cX10_others 97 = .ok (.lload 5, 2) := by decide +kernel
theorem dX10_others_99 : decode cX10_others 99 = .ok (.invokevirtual 238, 3) := by decide +kernel
theorem dX10_others_102 : decode cX10_others 102 = .ok (.iconst 0, 1) := by decide +kernel
theorem dX10_others_103 : decode cX10_others 103 = .ok (.ireturn, 1) := by decide +kernel
theorem dX10_others_104 : decode cX10_others 104 = .ok (.aload_n 0, 1) := by decide +kernel
theorem dX10_others_105 : decode cX10_others 105 = .ok (.getfield 54, 3) := by decide +kernel
theorem dX10_others_108 : decode cX10_others 108 = .ok (.aload_n 0, 1) := by decide +kernel
theorem dX10_others_109 : decode cX10_others 109 = .ok (.getfield 235, 3) := by decide +kernel
theorem dX10_others_112 : decode cX10_others 112 = .ok (.dup2, 1) := by decide +kernel
theorem dX10_others_113 : decode cX10_others 113 = .ok (.iaload, 1) := by decide +kernel
theorem dX10_others_114 : decode cX10_others 114 = .ok (.iconst 1, 1) := by decide +kernel
theorem dX10_others_115 : decode cX10_others 115 = .ok (.isub, 1) := by decide +kernel
theorem dX10_others_116 : decode cX10_others 116 = .ok (.iastore, 1) := by decide +kernel
theorem dX10_others_117 : decode cX10_others 117 = .ok (.iconst 0, 1) := by decide +kernel
theorem dX10_others_118 : decode cX10_others 118 = .ok (.ireturn, 1) := by decide +kernel
theorem dX10_others_119 : decode cX10_others 119 = .ok (.aload_n 0, 1) := by decide +kernel
theorem dX10_others_120 : decode cX10_others 120 = .ok (.getfield 51, 3) := by decide +kernel
theorem dX10_others_123 : decode cX10_others 123 = .ok (.iload 4, 2) := by decide +kernel
theorem dX10_others_125 : decode cX10_others 125 = .ok (.aload_n 0, 1) := by decide +kernel
theorem dX10_others_126 : decode cX10_others 126 = .ok (.getfield 51, 3) := by decide +kernel
end
section
theorem dX10_others_129 : decode cX10_others 129 = .ok (.iload 4, 2) := by decide +kernel
theorem dX10_others_131 : decode cX10_others 131 = .ok (.iconst 1, 1) := by decide +kernel
theorem dX10_others_132 : decode cX10_others 132 = .ok (.isub, 1) := by decide +kernel
theorem dX10_others_133 : decode cX10_others 133 = .ok (.laload, 1) := by decide +kernel
theorem dX10_others_134 : decode cX10_others 134 = .ok (.lastore, 1) := by decide +kernel
theorem dX10_others_135 : decode cX10_others 135 = .ok (.aload_n 0, 1) := by decide +kernel
theorem dX10_others_136 : decode cX10_others 136 = .ok (.getfield 51, 3) := by decide +kernel
theorem dX10_others_139 : decode cX10_others 139 = .ok (.iload 4, 2) := by decide +kernel
theorem dX10_others_141 : decode cX10_others 141 = .ok (.iconst 1, 1) := by decide +kernel
theorem dX10_others_142 : decode cX10_others 142 = .ok (.isub, 1) := by decide +kernel
theorem dX10_others_143 : decode cX10_others 143 = .ok (.lload 5, 2) := by decide +kernel
theorem dX10_others_145 : decode cX10_others 145 = .ok (.lastore, 1) := by decide +kernel
theorem dX10_others_146 : decode cX10_others 146 = .ok (.iconst 0, 1) := by decide +kernel
theorem dX10_others_147 : decode cX10_others 147 = .ok (.ireturn, 1) := by decide +kernel
theorem dX10_others_148 : decode cX10_others 148 = .ok (.aload_n 0, 1) := by decide +kernel
theorem dX10_others_149 : decode cX10_others 149 = .ok (.getfield 60, 3) := by decide +kernel
theorem dX10_others_152 : decode cX10_others 152 = .ok (.aload_n 0, 1) := by decide +kernel
theorem dX10_others_153 : decode cX10_others 153 = .ok (.getfield 235, 3) := by decide +kernel
theorem dX10_others_156 : decode cX10_others 156 = .ok (.lload_n 2, 1) := by decide +kernel
theorem dX10_others_157 : decode cX10_others 157 = .ok (.l2i, 1) := by decide +kernel
theorem dX10_others_158 : decode cX10_others 158 = .ok (.iastore, 1) := by decide +kernel
theorem dX10_others_159 : decode cX10_others 159 = .ok (.bipush 21, 2) := by decide +kernel
theorem dX10_others_161 : decode cX10_others 161 = .ok (.ireturn, 1) := by decide +kernel
theorem dX10_others_162 : decode cX10_others 162 = .ok (.aload_n 0, 1) := by decide +kernel
theorem dX10_others_163 : decode cX10_others 163 = .ok (.getfield 54, 3) := by decide +kernel
theorem dX10_others_166 : decode cX10_others 166 = .ok (.aload_n 0, 1) := by decide +kernel
theorem dX10_others_167 : decode cX10_others 167 = .ok (.getfield 235, 3) := by decide +kernel
theorem dX10_others_170 : decode cX10_others 170 = .ok (.dup2, 1) := by decide +kernel
theorem dX10_others_171 : decode cX10_others 171 = .ok (.iaload, 1) := by decide +kernel
theorem dX10_others_172 : decode cX10_others 172 = .ok (.iconst 1, 1) := by decide +kernel
theorem dX10_others_173 : decode cX10_others 173 = .ok (.isub, 1) := by decide +kernel
theorem dX10_others_174 : decode cX10_others 174 = .ok (.iastore, 1) := by decide +kernel
theorem dX10_others_175 : decode cX10_others 175 = .ok (.lload 5, 2) := by decide +kernel
theorem dX10_others_177 : decode cX10_others 177 = .ok (.iload_n 1, 1) := by decide +kernel
theorem dX10_others_178 : decode cX10_others 178 = .ok (.bipush 30, 2) := by decide +kernel
theorem dX10_others_180 : decode cX10_others 180 = .ok (.if_icmp .ne 7, 3) := by decide +kernel
theorem dX10_others_183 : decode cX10_others 183 = .ok (.lconst 0, 1) := by decide +kernel
theorem dX10_others_184 : decode cX10_others 184 = .ok (.goto 6, 3) := by decide +kernel
theorem dX10_others_187 : decode cX10_others 187 = .ok (.ldc2_w 141, 3) := by decide +kernel
theorem dX10_others_190 : decode cX10_others 190 = .ok (.lcmp, 1) := by decide +kernel
theorem dX10_others_191 : decode cX10_others 191 = .ok (.ifCond .ne 17, 3) := by decide +kernel
theorem dX10_others_194 : decode cX10_others 194 = .ok (.aload_n 0, 1) := by decide +kernel
theorem dX10_others_195 : decode cX10_others 195 = .ok (.getfield 60, 3) := by decide +kernel
theorem dX10_others_198 : decode cX10_others 198 = .ok (.aload_n 0, 1) := by decide +kernel
theorem dX10_others_199 : decode cX10_others 199 = .ok (.getfield 235, 3) := by decide +kernel
theorem dX10_others_202 : decode cX10_others 202 = .ok (.lload_n 2, 1) := by decide +kernel
theorem dX10_others_203 : decode cX10_others 203 = .ok (.l2i, 1) := by decide +kernel
theorem dX10_others_204 : decode cX10_others 204 = .ok (.iastore, 1) := by decide +kernel
theorem dX10_others_205 : decode cX10_others 205 = .ok (.bipush 21, 2) := by decide +kernel
theorem dX10_others_207 : decode cX10_others 207 = .ok (.ireturn, 1) := by decide +kernel
theorem dX10_others_208 : decode cX10_others 208 = .ok (.iconst 0, 1) := by decide +kernel
theorem dX10_others_209 : decode cX10_others 209 = .ok (.ireturn, 1) := by decide +kernel
theorem dX10_others_210 : decode cX10_others 210 = .ok (.aload_n 0, 1) := by decide +kernel
theorem dX10_others_211 : decode cX10_others 211 = .ok (.dup, 1) := by decide +kernel
theorem dX10_others_212 : decode cX10_others 212 = .ok (.getfield 235, 3) := by decide +kernel
theorem dX10_others_215 : decode cX10_others 215 = .ok (.iconst 1, 1) := by decide +kernel
theorem dX10_others_216 : decode cX10_others 216 = .ok (.isub, 1) := by decide +kernel
theorem dX10_others_217 : decode cX10_others 217 = .ok (.putfield 235, 3) := by decide +kernel
theorem dX10_others_220 : decode cX10_others 220 = .ok (.aload_n 0, 1) := by decide +kernel
theorem dX10_others_221 : decode cX10_others 221 = .ok (.getfield 235, 3) := by decide +kernel
theorem dX10_others_224 : decode cX10_others 224 = .ok (.ifCond .ge 13, 3) := by decide +kernel
theorem dX10_others_227 : decode cX10_others 227 = .ok (.aload_n 0, 1) := by decide +kernel
theorem dX10_others_228 : decode cX10_others 228 = .ok (.lload 5, 2) := by decide +kernel
theorem dX10_others_230 : decode cX10_others 230 = .ok (.l2i, 1) := by decide +kernel
theorem dX10_others_231 : decode cX10_others 231 = .ok (.putfield 263, 3) := by decide +kernel
theorem dX10_others_234 : decode cX10_others 234 = .ok (.bipush 20, 2) := by decide +kernel
theorem dX10_others_236 : decode cX10_others 236 = .ok (.ireturn, 1) := by decide +kernel
theorem dX10_others_237 : decode cX10_others 237 = .ok (.aload_n 0, 1) := by decide +kernel
theorem dX10_others_238 : decode cX10_others 238 = .ok (.lload 5, 2) := by decide +kernel
theorem dX10_others_240 : decode cX10_others 240 = .ok (.invokevirtual 238, 3) := by decide +kernel
theorem dX10_others_243 : decode cX10_others 243 = .ok (.aload_n 0, 1) := by decide +kernel
theorem dX10_others_244 : decode cX10_others 244 = .ok (.getfield 60, 3) := by decide +kernel
theorem dX10_others_247 : decode cX10_others 247 = .ok (.aload_n 0, 1) := by decide +kernel
theorem dX10_others_248 : decode cX10_others 248 = .ok (.getfield 235, 3) := by decide +kernel
theorem dX10_others_251 : decode cX10_others 251 = .ok (.dup2, 1) := by decide +kernel
theorem dX10_others_252 : decode cX10_others 252 = .ok (.iaload, 1) := by decide +kernel
theorem dX10_others_253 : decode cX10_others 253 = .ok (.iconst 1, 1) := by decide +kernel
theorem dX10_others_254 : decode cX10_others 254 = .ok (.iadd, 1) := by decide +kernel
theorem dX10_others_255 : decode cX10_others 255 = .ok (.iastore, 1) := by decide +kernel
theorem dX10_others_256 : decode cX10_others 256 = .ok (.bipush 21, 2) := by decide +kernel
theorem dX10_others_258 : decode cX10_others 258 = .ok (.ireturn, 1) := by decide +kernel
theorem dX10_others_259 : decode cX10_others 259 = .ok (.aload_n 0, 1) := by decide +kernel
theorem dX10_others_260 : decode cX10_others 260 = .ok (.lload_n 2, 1) := by decide +kernel
theorem dX10_others_261 : decode cX10_others 261 = .ok (.l2i, 1) := by decide +kernel
theorem dX10_others_262 : decode cX10_others 262 = .ok (.invokevirtual 317, 3) := by decide +kernel
theorem dX10_others_265 : decode cX10_others 265 = .ok (.bipush 21, 2) := by decide +kernel
theorem dX10_others_267 : decode cX10_others 267 = .ok (.ireturn, 1) := by decide +kernel
theorem dX10_others_268 : decode cX10_others 268 = .ok (.aload_n 0, 1) := by decide +kernel
theorem dX10_others_269 : decode cX10_others 269 = .ok (.lload 5, 2) := by decide +kernel
theorem dX10_others_271 : decode cX10_others 271 = .ok (.l2i, 1) := by decide +kernel
theorem dX10_others_272 : decode cX10_others 272 = .ok (.putfield 273, 3) := by decide +kernel
theorem dX10_others_275 : decode cX10_others 275 = .ok (.bipush 7, 2) := by decide +kernel
theorem dX10_others_277 : decode cX10_others 277 = .ok (.ireturn, 1) := by decide +kernel
theorem dX10_calls_0 : decode cX10_calls 0 = .ok (.aload_n 0, 1) := by decide +kernel
theorem dX10_calls_1 : decode cX10_calls 1 = .ok (.getfield 54, 3) := by decide +kernel
theorem dX10_calls_4 : decode cX10_calls 4 = .ok (.aload_n 0, 1) := by decide +kernel
theorem dX10_calls_5 : decode cX10_calls 5 = .ok (.getfield 235, 3) := by decide +kernel
theorem dX10_calls_8 : decode cX10_calls 8 = .ok (.dup2, 1) := by decide +kernel
theorem dX10_calls_9 : decode cX10_calls 9 = .ok (.iaload, 1) := by decide +kernel
theorem dX10_calls_10 : decode cX10_calls 10 = .ok (.aload_n 0, 1) := by decide +kernel
theorem dX10_calls_11 : decode cX10_calls 11 = .ok (.getfield 7, 3) := by decide +kernel
theorem dX10_calls_14 : decode cX10_calls 14 = .ok (.iload_n 1, 1) := by decide +kernel
theorem dX10_calls_15 : decode cX10_calls 15 = .ok (.iaload, 1) := by decide +kernel
theorem dX10_calls_16 : decode cX10_calls 16 = .ok (.isub, 1) := by decide +kernel
theorem dX10_calls_17 : decode cX10_calls 17 = .ok (.iastore, 1) := by decide +kernel
theorem dX10_calls_18 : decode cX10_calls 18 = .ok (.iconst 0, 1) := by decide +kernel
theorem dX10_calls_19 : decode cX10_calls 19 = .ok (.istore_n 2, 1) := by decide +kernel
theorem dX10_calls_20 : decode cX10_calls 20 = .ok (.iload_n 2, 1) := by decide +kernel
theorem dX10_calls_21 : decode cX10_calls 21 = .ok (.aload_n 0, 1) := by decide +kernel
theorem dX10_calls_22 : decode cX10_calls 22 = .ok (.getfield 7, 3) := by decide +kernel
theorem dX10_calls_25 : decode cX10_calls 25 = .ok (.iload_n 1, 1) := by decide +kernel
theorem dX10_calls_26 : decode cX10_calls 26 = .ok (.iaload, 1) := by decide +kernel
theorem dX10_calls_27 : decode cX10_calls 27 = .ok (.if_icmp .ge 52, 3) := by decide +kernel
theorem dX10_calls_30 : decode cX10_calls 30 = .ok (.aload_n 0, 1) := by decide +kernel
theorem dX10_calls_31 : decode cX10_calls 31 = .ok (.getfield 51, 3) := by decide +kernel
theorem dX10_calls_34 : decode cX10_calls 34 = .ok (.bipush 16, 2) := by decide +kernel
theorem dX10_calls_36 : decode cX10_calls 36 = .ok (.aload_n 0, 1) := by decide +kernel
theorem dX10_calls_37 : decode cX10_calls 37 = .ok (.getfield 235, 3) := by decide +kernel
theorem dX10_calls_40 : decode cX10_calls 40 = .ok (.iconst 1, 1) := by decide +kernel
theorem dX10_calls_41 : decode cX10_calls 41 = .ok (.iadd, 1) := by decide +kernel
theorem dX10_calls_42 : decode cX10_calls 42 = .ok (.imul, 1) := by decide +kernel
theorem dX10_calls_43 : decode cX10_calls 43 = .ok (.iload_n 2, 1) := by decide +kernel
theorem dX10_calls_44 : decode cX10_calls 44 = .ok (.iadd, 1) := by decide +kernel
theorem dX10_calls_45 : decode cX10_calls 45 = .ok (.aload_n 0, 1) := by decide +kernel
theorem dX10_calls_46 : decode cX10_calls 46 = .ok (.getfield 51, 3) := by decide +kernel
theorem dX10_calls_49 : decode cX10_calls 49 = .ok (.bipush 16, 2) := by decide +kernel
theorem dX10_calls_51 : decode cX10_calls 51 = .ok (.aload_n 0, 1) := by decide +kernel
theorem dX10_calls_52 : decode cX10_calls 52 = .ok (.getfield 235, 3) := by decide +kernel
theorem dX10_calls_55 : decode cX10_calls 55 = .ok (.imul, 1) := by decide +kernel
theorem dX10_calls_56 : decode cX10_calls 56 = .ok (.bipush 8, 2) := by decide +kernel
theorem dX10_calls_58 : decode cX10_calls 58 = .ok (.iadd, 1) := by decide +kernel
theorem dX10_calls_59 : decode cX10_calls 59 = .ok (.aload_n 0, 1) := by decide +kernel
theorem dX10_calls_60 : decode cX10_calls 60 = .ok (.getfield 54, 3) := by decide +kernel
theorem dX10_calls_63 : decode cX10_calls 63 = .ok (.aload_n 0, 1) := by decide +kernel
theorem dX10_calls_64 : decode cX10_calls 64 = .ok (.getfield 235, 3) := by decide +kernel
theorem dX10_calls_67 : decode cX10_calls 67 = .ok (.iaload, 1) := by decide +kernel
theorem dX10_calls_68 : decode cX10_calls 68 = .ok (.iadd, 1) := by decide +kernel
theorem dX10_calls_69 : decode cX10_calls 69 = .ok (.iload_n 2, 1) := by decide +kernel
theorem dX10_calls_70 : decode cX10_calls 70 = .ok (.iadd, 1) := by decide +kernel
theorem dX10_calls_71 : decode cX10_calls 71 = .ok (.laload, 1) := by decide +kernel
theorem dX10_calls_72 : decode cX10_calls 72 = .ok (.lastore, 1) := by decide +kernel
theorem dX10_calls_73 : decode cX10_calls 73 = .ok (.iinc 2 1, 3) := by decide +kernel
theorem dX10_calls_76 : decode cX10_calls 76 = .ok (.goto (-56), 3) := by decide +kernel
theorem dX10_calls_79 : decode cX10_calls 79 = .ok (.aload_n 0, 1) := by decide +kernel
theorem dX10_calls_80 : decode cX10_calls 80 = .ok (.dup, 1) := by decide +kernel
theorem dX10_calls_81 : decode cX10_calls 81 = .ok (.getfield 235, 3) := by decide +kernel
theorem dX10_calls_84 : decode cX10_calls 84 = .ok (.iconst 1, 1) := by decide +kernel
theorem dX10_calls_85 : decode cX10_calls 85 = .ok (.iadd, 1) := by decide +kernel
theorem dX10_calls_86 : decode cX10_calls 86 = .ok (.putfield 235, 3) := by decide +kernel
theorem dX10_calls_89 : decode cX10_calls 89 = .ok (.aload_n 0, 1) := by decide +kernel
theorem dX10_calls_90 : decode cX10_calls 90 = .ok (.getfield 57, 3) := by decide +kernel
theorem dX10_calls_93 : decode cX10_calls 93 = .ok (.aload_n 0, 1) := by decide +kernel
theorem dX10_calls_94 : decode cX10_calls 94 = .ok (.getfield 235, 3) := by decide +kernel
theorem dX10_calls_97 : decode cX10_calls 97 = .ok (.iload_n 1, 1) := by decide +kernel
theorem dX10_calls_98 : decode cX10_calls 98 = .ok (.iastore, 1) := by decide +kernel
theorem dX10_calls_99 : decode cX10_calls 99 = .ok (.aload_n 0, 1) := by decide +kernel
theorem dX10_calls_100 : decode cX10_calls 100 = .ok (.getfield 60, 3) := by decide +kernel
theorem dX10_calls_103 : decode cX10_calls 103 = .ok (.aload_n 0, 1) := by decide +kernel
theorem dX10_calls_104 : decode cX10_calls 104 = .ok (.getfield 235, 3) := by decide +kernel
theorem dX10_calls_107 : decode cX10_calls 107 = .ok (.iconst 0, 1) := by decide +kernel
theorem dX10_calls_108 : decode cX10_calls 108 = .ok (.iastore, 1) := by decide +kernel
theorem dX10_calls_109 : decode cX10_calls 109 = .ok (.aload_n 0, 1) := by decide +kernel
theorem dX10_calls_110 : decode cX10_calls 110 = .ok (.getfield 54, 3) := by decide +kernel
theorem dX10_calls_113 : decode cX10_calls 113 = .ok (.aload_n 0, 1) := by decide +kernel
theorem dX10_calls_114 : decode cX10_calls 114 = .ok (.getfield 235, 3) := by decide +kernel
theorem dX10_calls_117 : decode cX10_calls 117 = .ok (.iconst 0, 1) := by decide +kernel
theorem dX10_calls_118 : decode cX10_calls 118 = .ok (.iastore, 1) := by decide +kernel
theorem dX10_calls_119 : decode cX10_calls 119 = .ok (.return_, 1) := by decide +kernel
theorem dX10_answer_0 : decode cX10_answer 0 = .ok (.aload_n 0, 1) := by decide +kernel
theorem dX10_answer_1 : decode cX10_answer 1 = .ok (.getfield 263, 3) := by decide +kernel
theorem dX10_answer_4 : decode cX10_answer 4 = .ok (.ireturn, 1) := by decide +kernel
theorem dX10_told_0 : decode cX10_told 0 = .ok (.iload_n 1, 1) := by decide +kernel
theorem dX10_told_1 : decode cX10_told 1 = .ok (.tableswitch 84 0 4 #[35, 40, 45, 50, 67], 35) := by decide +kernel
theorem dX10_told_36 : decode cX10_told 36 = .ok (.aload_n 0, 1) := by decide +kernel
theorem dX10_told_37 : decode cX10_told 37 = .ok (.getfield 251, 3) := by decide +kernel
theorem dX10_told_40 : decode cX10_told 40 = .ok (.ireturn, 1) := by decide +kernel
theorem dX10_told_41 : decode cX10_told 41 = .ok (.aload_n 0, 1) := by decide +kernel
theorem dX10_told_42 : decode cX10_told 42 = .ok (.getfield 254, 3) := by decide +kernel
theorem dX10_told_45 : decode cX10_told 45 = .ok (.ireturn, 1) := by decide +kernel
theorem dX10_told_46 : decode cX10_told 46 = .ok (.aload_n 0, 1) := by decide +kernel
theorem dX10_told_47 : decode cX10_told 47 = .ok (.getfield 248, 3) := by decide +kernel
theorem dX10_told_50 : decode cX10_told 50 = .ok (.ireturn, 1) := by decide +kernel
theorem dX10_told_51 : decode cX10_told 51 = .ok (.aload_n 0, 1) := by decide +kernel
theorem dX10_told_52 : decode cX10_told 52 = .ok (.getfield 245, 3) := by decide +kernel
theorem dX10_told_55 : decode cX10_told 55 = .ok (.ifCond .eq 10, 3) := by decide +kernel
theorem dX10_told_58 : decode cX10_told 58 = .ok (.aload_n 0, 1) := by decide +kernel
theorem dX10_told_59 : decode cX10_told 59 = .ok (.getfield 257, 3) := by decide +kernel
theorem dX10_told_62 : decode cX10_told 62 = .ok (.goto 5, 3) := by decide +kernel
theorem dX10_told_65 : decode cX10_told 65 = .ok (.ldc 234, 2) := by decide +kernel
theorem dX10_told_67 : decode cX10_told 67 = .ok (.ireturn, 1) := by decide +kernel
theorem dX10_told_68 : decode cX10_told 68 = .ok (.aload_n 0, 1) := by decide +kernel
theorem dX10_told_69 : decode cX10_told 69 = .ok (.getfield 245, 3) := by decide +kernel
theorem dX10_told_72 : decode cX10_told 72 = .ok (.ifCond .eq 10, 3) := by decide +kernel
theorem dX10_told_75 : decode cX10_told 75 = .ok (.aload_n 0, 1) := by decide +kernel
theorem dX10_told_76 : decode cX10_told 76 = .ok (.getfield 260, 3) := by decide +kernel
theorem dX10_told_79 : decode cX10_told 79 = .ok (.goto 5, 3) := by decide +kernel
theorem dX10_told_82 : decode cX10_told 82 = .ok (.ldc 234, 2) := by decide +kernel
theorem dX10_told_84 : decode cX10_told 84 = .ok (.ireturn, 1) := by decide +kernel
theorem dX10_told_85 : decode cX10_told 85 = .ok (.iconst (-1), 1) := by decide +kernel
theorem dX10_told_86 : decode cX10_told 86 = .ok (.ireturn, 1) := by decide +kernel
theorem dX10_count_0 : decode cX10_count 0 = .ok (.iload_n 1, 1) := by decide +kernel
theorem dX10_count_1 : decode cX10_count 1 = .ok (.ifCond .ne 8, 3) := by decide +kernel
theorem dX10_count_4 : decode cX10_count 4 = .ok (.aload_n 0, 1) := by decide +kernel
theorem dX10_count_5 : decode cX10_count 5 = .ok (.getfield 75, 3) := by decide +kernel
theorem dX10_count_8 : decode cX10_count 8 = .ok (.ireturn, 1) := by decide +kernel
theorem dX10_count_9 : decode cX10_count 9 = .ok (.iload_n 1, 1) := by decide +kernel
theorem dX10_count_10 : decode cX10_count 10 = .ok (.i2l, 1) := by decide +kernel
theorem dX10_count_11 : decode cX10_count 11 = .ok (.lconst 1, 1) := by decide +kernel
theorem dX10_count_12 : decode cX10_count 12 = .ok (.ldc2_w 278, 3) := by decide +kernel
theorem dX10_count_15 : decode cX10_count 15 = .ok (.invokestatic 79, 3) := by decide +kernel
theorem dX10_count_18 : decode cX10_count 18 = .ok (.ifCond .eq 11, 3) := by decide +kernel
theorem dX10_count_21 : decode cX10_count 21 = .ok (.aload_n 0, 1) := by decide +kernel
theorem dX10_count_22 : decode cX10_count 22 = .ok (.iload_n 2, 1) := by decide +kernel
theorem dX10_count_23 : decode cX10_count 23 = .ok (.invokevirtual 130, 3) := by decide +kernel
theorem dX10_count_26 : decode cX10_count 26 = .ok (.ifCond .ne 5, 3) := by decide +kernel
theorem dX10_count_29 : decode cX10_count 29 = .ok (.iconst (-1), 1) := by decide +kernel
theorem dX10_count_30 : decode cX10_count 30 = .ok (.ireturn, 1) := by decide +kernel
theorem dX10_count_31 : decode cX10_count 31 = .ok (.iload_n 1, 1) := by decide +kernel
theorem dX10_count_32 : decode cX10_count 32 = .ok (.iconst 1, 1) := by decide +kernel
theorem dX10_count_33 : decode cX10_count 33 = .ok (.if_icmp .ne 12, 3) := by decide +kernel
theorem dX10_count_36 : decode cX10_count 36 = .ok (.aload_n 0, 1) := by decide +kernel
theorem dX10_count_37 : decode cX10_count 37 = .ok (.getfield 13, 3) := by decide +kernel
theorem dX10_count_40 : decode cX10_count 40 = .ok (.iload_n 2, 1) := by decide +kernel
theorem dX10_count_41 : decode cX10_count 41 = .ok (.iaload, 1) := by decide +kernel
theorem dX10_count_42 : decode cX10_count 42 = .ok (.goto 31, 3) := by decide +kernel
theorem dX10_count_45 : decode cX10_count 45 = .ok (.iload_n 1, 1) := by decide +kernel
theorem dX10_count_46 : decode cX10_count 46 = .ok (.iconst 2, 1) := by decide +kernel
theorem dX10_count_47 : decode cX10_count 47 = .ok (.if_icmp .ne 12, 3) := by decide +kernel
theorem dX10_count_50 : decode cX10_count 50 = .ok (.aload_n 0, 1) := by decide +kernel
theorem dX10_count_51 : decode cX10_count 51 = .ok (.getfield 23, 3) := by decide +kernel
theorem dX10_count_54 : decode cX10_count 54 = .ok (.iload_n 2, 1) := by decide +kernel
theorem dX10_count_55 : decode cX10_count 55 = .ok (.iaload, 1) := by decide +kernel
theorem dX10_count_56 : decode cX10_count 56 = .ok (.goto 17, 3) := by decide +kernel
theorem dX10_count_59 : decode cX10_count 59 = .ok (.aload_n 0, 1) := by decide +kernel
theorem dX10_count_60 : decode cX10_count 60 = .ok (.getfield 35, 3) := by decide +kernel
theorem dX10_count_63 : decode cX10_count 63 = .ok (.iload_n 2, 1) := by decide +kernel
theorem dX10_count_64 : decode cX10_count 64 = .ok (.baload, 1) := by decide +kernel
theorem dX10_count_65 : decode cX10_count 65 = .ok (.ifCond .eq 7, 3) := by decide +kernel
theorem dX10_count_68 : decode cX10_count 68 = .ok (.iconst 1, 1) := by decide +kernel
theorem dX10_count_69 : decode cX10_count 69 = .ok (.goto 4, 3) := by decide +kernel
theorem dX10_count_72 : decode cX10_count 72 = .ok (.iconst 0, 1) := by decide +kernel
theorem dX10_count_73 : decode cX10_count 73 = .ok (.ireturn, 1) := by decide +kernel
end
section
/-! THE REFERENCE: its state x: x.1 k the field k (an int or 0, 1), x.2.1 k the int (or boolean) array of field k, x.2.2 k the long array of field k -/
abbrev RS : Type := (Nat → Int32) × (Nat → Nat → Int32) × (Nat → Nat → Int64)
def sS (x : RS) (k : Nat) (v : Int32) : RS := (upd x.1 k v, x.2)
def sA (x : RS) (k j : Nat) (v : Int32) : RS := (x.1, va_up x.2.1 k (upd (x.2.1 k) j v), x.2.2)
def sJ (x : RS) (k j : Nat) (v : Int64) : RS := (x.1, x.2.1, va_up x.2.2 k (vp_updL (x.2.2 k) j v))
def rF (L : mI → Nat) (x : RS) : List Value := [.int (x.1 0), .ref (L (.inr (0, 1, 0))), .ref (L (.inr (0, 2, 0))), .ref (L (.inr (0, 3, 0))), .ref (L (.inr (0, 4, 0))), .ref (L (.inr (0, 5, 0))), .ref (L (.inr (0, 6, 0))), .ref (L (.inr (0, 7, 0))), .ref (L (.inr (0, 8, 0))), .ref (L (.inr (0, 9, 0))), .int (x.1 10), .ref (L (.inr (0, 11, 0))), .ref (L (.inr (0, 12, 0))), .int (x.1 13), .ref (L (.inr (0, 14, 0))), .int (x.1 15), .int (x.1 16), .ref (L (.inr (0, 17, 0))), .ref (L (.inr (0, 18, 0))), .ref (L (.inr (0, 19, 0))), .ref (L (.inr (0, 20, 0))), .ref (L (.inr (0, 21, 0))), .int (x.1 22), .int (x.1 23), .ref (L (.inr (0, 24, 0))), .ref (L (.inr (0, 25, 0))), .ref (L (.inr (0, 26, 0))), .ref (L (.inr (0, 27, 0))), .int (x.1 28), .int (x.1 29), .int (x.1 30), .int (x.1 31), .int (x.1 32), .int (x.1 33), .int (x.1 34)]
def rA (Γ : mG) (x : RS) : Nat → Nat → Option va_E := fun k b => match b with
  | 0 => match k with
    | 1 => some (.inl (Γ.2.1 0, 8, .inl (x.2.1 1)))
    | 2 => some (.inl (Γ.2.1 0, 8, .inl (x.2.1 2)))
    | 3 => some (.inl (Γ.2.1 0, 320, .inl (x.2.1 3)))
    | 4 => some (.inl (Γ.2.1 1, 320, .inr (.inl (x.2.2 4))))
    | 5 => some (.inl (Γ.2.1 0, 8, .inl (x.2.1 5)))
    | 6 => some (.inl (Γ.2.1 0, 192, .inl (x.2.1 6)))
    | 7 => some (.inl (Γ.2.1 0, 320, .inl (x.2.1 7)))
    | 8 => some (.inl (Γ.2.1 0, 5120, .inl (x.2.1 8)))
    | 9 => some (.inl (Γ.2.1 2, 8, .inl (x.2.1 9)))
    | 11 => some (.inl (Γ.2.1 0, 40, .inl (x.2.1 11)))
    | 12 => some (.inl (Γ.2.1 0, 640, .inl (x.2.1 12)))
    | 14 => some (.inl (Γ.2.1 0, 16, .inl (x.2.1 14)))
    | 17 => some (.inl (Γ.2.1 0, 8, .inl (x.2.1 17)))
    | 18 => some (.inl (Γ.2.1 1, 128, .inr (.inl (x.2.2 18))))
    | 19 => some (.inl (Γ.2.1 0, 8, .inl (x.2.1 19)))
    | 20 => some (.inl (Γ.2.1 0, 8, .inl (x.2.1 20)))
    | 21 => some (.inl (Γ.2.1 0, 8, .inl (x.2.1 21)))
    | 24 => some (.inl (Γ.2.1 0, 20, .inl (x.2.1 24)))
    | 25 => some (.inl (Γ.2.1 0, 20, .inl (x.2.1 25)))
    | 26 => some (.inl (Γ.2.1 0, 20, .inl (x.2.1 26)))
    | 27 => some (.inl (Γ.2.1 1, 600, .inr (.inl (x.2.2 27))))
    | _ => none
  | _ + 1 => none
def rM (Γ : mG) (L : mI → Nat) (x : RS) : mM := ([.inr (8, rF L x)], [rA Γ x])
theorem rU_1 (Γ : mG) (x : RS) (j : Nat) (v : Int32) : up2 (rA Γ x) 1 0 (.inl (Γ.2.1 0, 8, .inl (upd (x.2.1 1) j v))) = rA Γ (sA x 1 j v) := by
  funext a b
  by_cases h : a = 1 ∧ b = 0
  · obtain ⟨rfl, rfl⟩ := h
    simp [up2, rA, sA, va_up]
  · simp only [up2, if_neg h]
    match b, a, h with
    | 0, 0, _ => rfl
    | 0, 1, h => exact absurd ⟨rfl, rfl⟩ h
    | 0, 2, _ => rfl
    | 0, 3, _ => rfl
    | 0, 4, _ => rfl
    | 0, 5, _ => rfl
    | 0, 6, _ => rfl
    | 0, 7, _ => rfl
    | 0, 8, _ => rfl
    | 0, 9, _ => rfl
    | 0, 10, _ => rfl
    | 0, 11, _ => rfl
    | 0, 12, _ => rfl
    | 0, 13, _ => rfl
    | 0, 14, _ => rfl
    | 0, 15, _ => rfl
    | 0, 16, _ => rfl
    | 0, 17, _ => rfl
    | 0, 18, _ => rfl
    | 0, 19, _ => rfl
    | 0, 20, _ => rfl
    | 0, 21, _ => rfl
    | 0, 22, _ => rfl
    | 0, 23, _ => rfl
    | 0, 24, _ => rfl
    | 0, 25, _ => rfl
    | 0, 26, _ => rfl
    | 0, 27, _ => rfl
    | 0, _ + 28, _ => rfl
    | _ + 1, _, _ => rfl
theorem rU_2 (Γ : mG) (x : RS) (j : Nat) (v : Int32) : up2 (rA Γ x) 2 0 (.inl (Γ.2.1 0, 8, .inl (upd (x.2.1 2) j v))) = rA Γ (sA x 2 j v) := by
  funext a b
  by_cases h : a = 2 ∧ b = 0
  · obtain ⟨rfl, rfl⟩ := h
    simp [up2, rA, sA, va_up]
  · simp only [up2, if_neg h]
    match b, a, h with
    | 0, 0, _ => rfl
    | 0, 1, _ => rfl
    | 0, 2, h => exact absurd ⟨rfl, rfl⟩ h
    | 0, 3, _ => rfl
    | 0, 4, _ => rfl
    | 0, 5, _ => rfl
    | 0, 6, _ => rfl
    | 0, 7, _ => rfl
    | 0, 8, _ => rfl
    | 0, 9, _ => rfl
    | 0, 10, _ => rfl
    | 0, 11, _ => rfl
    | 0, 12, _ => rfl
    | 0, 13, _ => rfl
    | 0, 14, _ => rfl
    | 0, 15, _ => rfl
    | 0, 16, _ => rfl
    | 0, 17, _ => rfl
    | 0, 18, _ => rfl
    | 0, 19, _ => rfl
    | 0, 20, _ => rfl
    | 0, 21, _ => rfl
    | 0, 22, _ => rfl
    | 0, 23, _ => rfl
    | 0, 24, _ => rfl
    | 0, 25, _ => rfl
    | 0, 26, _ => rfl
    | 0, 27, _ => rfl
    | 0, _ + 28, _ => rfl
    | _ + 1, _, _ => rfl
theorem rU_3 (Γ : mG) (x : RS) (j : Nat) (v : Int32) : up2 (rA Γ x) 3 0 (.inl (Γ.2.1 0, 320, .inl (upd (x.2.1 3) j v))) = rA Γ (sA x 3 j v) := by
  funext a b
  by_cases h : a = 3 ∧ b = 0
  · obtain ⟨rfl, rfl⟩ := h
    simp [up2, rA, sA, va_up]
  · simp only [up2, if_neg h]
    match b, a, h with
    | 0, 0, _ => rfl
    | 0, 1, _ => rfl
    | 0, 2, _ => rfl
    | 0, 3, h => exact absurd ⟨rfl, rfl⟩ h
    | 0, 4, _ => rfl
    | 0, 5, _ => rfl
    | 0, 6, _ => rfl
    | 0, 7, _ => rfl
    | 0, 8, _ => rfl
    | 0, 9, _ => rfl
    | 0, 10, _ => rfl
    | 0, 11, _ => rfl
    | 0, 12, _ => rfl
    | 0, 13, _ => rfl
    | 0, 14, _ => rfl
    | 0, 15, _ => rfl
    | 0, 16, _ => rfl
    | 0, 17, _ => rfl
    | 0, 18, _ => rfl
    | 0, 19, _ => rfl
    | 0, 20, _ => rfl
    | 0, 21, _ => rfl
    | 0, 22, _ => rfl
    | 0, 23, _ => rfl
    | 0, 24, _ => rfl
    | 0, 25, _ => rfl
    | 0, 26, _ => rfl
    | 0, 27, _ => rfl
    | 0, _ + 28, _ => rfl
    | _ + 1, _, _ => rfl
theorem rU_4 (Γ : mG) (x : RS) (j : Nat) (v : Int64) : up2 (rA Γ x) 4 0 (.inl (Γ.2.1 1, 320, .inr (.inl (vp_updL (x.2.2 4) j v)))) = rA Γ (sJ x 4 j v) := by
  funext a b
  by_cases h : a = 4 ∧ b = 0
  · obtain ⟨rfl, rfl⟩ := h
    simp [up2, rA, sJ, va_up]
  · simp only [up2, if_neg h]
    match b, a, h with
    | 0, 0, _ => rfl
    | 0, 1, _ => rfl
    | 0, 2, _ => rfl
    | 0, 3, _ => rfl
    | 0, 4, h => exact absurd ⟨rfl, rfl⟩ h
    | 0, 5, _ => rfl
    | 0, 6, _ => rfl
    | 0, 7, _ => rfl
    | 0, 8, _ => rfl
    | 0, 9, _ => rfl
    | 0, 10, _ => rfl
    | 0, 11, _ => rfl
    | 0, 12, _ => rfl
    | 0, 13, _ => rfl
    | 0, 14, _ => rfl
    | 0, 15, _ => rfl
    | 0, 16, _ => rfl
    | 0, 17, _ => rfl
    | 0, 18, _ => rfl
    | 0, 19, _ => rfl
    | 0, 20, _ => rfl
    | 0, 21, _ => rfl
    | 0, 22, _ => rfl
    | 0, 23, _ => rfl
    | 0, 24, _ => rfl
    | 0, 25, _ => rfl
    | 0, 26, _ => rfl
    | 0, 27, _ => rfl
    | 0, _ + 28, _ => rfl
    | _ + 1, _, _ => rfl
theorem rU_5 (Γ : mG) (x : RS) (j : Nat) (v : Int32) : up2 (rA Γ x) 5 0 (.inl (Γ.2.1 0, 8, .inl (upd (x.2.1 5) j v))) = rA Γ (sA x 5 j v) := by
  funext a b
  by_cases h : a = 5 ∧ b = 0
  · obtain ⟨rfl, rfl⟩ := h
    simp [up2, rA, sA, va_up]
  · simp only [up2, if_neg h]
    match b, a, h with
    | 0, 0, _ => rfl
    | 0, 1, _ => rfl
    | 0, 2, _ => rfl
    | 0, 3, _ => rfl
    | 0, 4, _ => rfl
    | 0, 5, h => exact absurd ⟨rfl, rfl⟩ h
    | 0, 6, _ => rfl
    | 0, 7, _ => rfl
    | 0, 8, _ => rfl
    | 0, 9, _ => rfl
    | 0, 10, _ => rfl
    | 0, 11, _ => rfl
    | 0, 12, _ => rfl
    | 0, 13, _ => rfl
    | 0, 14, _ => rfl
    | 0, 15, _ => rfl
    | 0, 16, _ => rfl
    | 0, 17, _ => rfl
    | 0, 18, _ => rfl
    | 0, 19, _ => rfl
    | 0, 20, _ => rfl
    | 0, 21, _ => rfl
    | 0, 22, _ => rfl
    | 0, 23, _ => rfl
    | 0, 24, _ => rfl
    | 0, 25, _ => rfl
    | 0, 26, _ => rfl
    | 0, 27, _ => rfl
    | 0, _ + 28, _ => rfl
    | _ + 1, _, _ => rfl
theorem rU_6 (Γ : mG) (x : RS) (j : Nat) (v : Int32) : up2 (rA Γ x) 6 0 (.inl (Γ.2.1 0, 192, .inl (upd (x.2.1 6) j v))) = rA Γ (sA x 6 j v) := by
  funext a b
  by_cases h : a = 6 ∧ b = 0
  · obtain ⟨rfl, rfl⟩ := h
    simp [up2, rA, sA, va_up]
  · simp only [up2, if_neg h]
    match b, a, h with
    | 0, 0, _ => rfl
    | 0, 1, _ => rfl
    | 0, 2, _ => rfl
    | 0, 3, _ => rfl
    | 0, 4, _ => rfl
    | 0, 5, _ => rfl
    | 0, 6, h => exact absurd ⟨rfl, rfl⟩ h
    | 0, 7, _ => rfl
    | 0, 8, _ => rfl
    | 0, 9, _ => rfl
    | 0, 10, _ => rfl
    | 0, 11, _ => rfl
    | 0, 12, _ => rfl
    | 0, 13, _ => rfl
    | 0, 14, _ => rfl
    | 0, 15, _ => rfl
    | 0, 16, _ => rfl
    | 0, 17, _ => rfl
    | 0, 18, _ => rfl
    | 0, 19, _ => rfl
    | 0, 20, _ => rfl
    | 0, 21, _ => rfl
    | 0, 22, _ => rfl
    | 0, 23, _ => rfl
    | 0, 24, _ => rfl
    | 0, 25, _ => rfl
    | 0, 26, _ => rfl
    | 0, 27, _ => rfl
    | 0, _ + 28, _ => rfl
    | _ + 1, _, _ => rfl
theorem rU_7 (Γ : mG) (x : RS) (j : Nat) (v : Int32) : up2 (rA Γ x) 7 0 (.inl (Γ.2.1 0, 320, .inl (upd (x.2.1 7) j v))) = rA Γ (sA x 7 j v) := by
  funext a b
  by_cases h : a = 7 ∧ b = 0
  · obtain ⟨rfl, rfl⟩ := h
    simp [up2, rA, sA, va_up]
  · simp only [up2, if_neg h]
    match b, a, h with
    | 0, 0, _ => rfl
    | 0, 1, _ => rfl
    | 0, 2, _ => rfl
    | 0, 3, _ => rfl
    | 0, 4, _ => rfl
    | 0, 5, _ => rfl
    | 0, 6, _ => rfl
    | 0, 7, h => exact absurd ⟨rfl, rfl⟩ h
    | 0, 8, _ => rfl
    | 0, 9, _ => rfl
    | 0, 10, _ => rfl
    | 0, 11, _ => rfl
    | 0, 12, _ => rfl
    | 0, 13, _ => rfl
    | 0, 14, _ => rfl
    | 0, 15, _ => rfl
    | 0, 16, _ => rfl
    | 0, 17, _ => rfl
    | 0, 18, _ => rfl
    | 0, 19, _ => rfl
    | 0, 20, _ => rfl
    | 0, 21, _ => rfl
    | 0, 22, _ => rfl
    | 0, 23, _ => rfl
    | 0, 24, _ => rfl
    | 0, 25, _ => rfl
    | 0, 26, _ => rfl
    | 0, 27, _ => rfl
    | 0, _ + 28, _ => rfl
    | _ + 1, _, _ => rfl
theorem rU_8 (Γ : mG) (x : RS) (j : Nat) (v : Int32) : up2 (rA Γ x) 8 0 (.inl (Γ.2.1 0, 5120, .inl (upd (x.2.1 8) j v))) = rA Γ (sA x 8 j v) := by
  funext a b
  by_cases h : a = 8 ∧ b = 0
  · obtain ⟨rfl, rfl⟩ := h
    simp [up2, rA, sA, va_up]
  · simp only [up2, if_neg h]
    match b, a, h with
    | 0, 0, _ => rfl
    | 0, 1, _ => rfl
    | 0, 2, _ => rfl
    | 0, 3, _ => rfl
    | 0, 4, _ => rfl
    | 0, 5, _ => rfl
    | 0, 6, _ => rfl
    | 0, 7, _ => rfl
    | 0, 8, h => exact absurd ⟨rfl, rfl⟩ h
    | 0, 9, _ => rfl
    | 0, 10, _ => rfl
    | 0, 11, _ => rfl
    | 0, 12, _ => rfl
    | 0, 13, _ => rfl
    | 0, 14, _ => rfl
    | 0, 15, _ => rfl
    | 0, 16, _ => rfl
    | 0, 17, _ => rfl
    | 0, 18, _ => rfl
    | 0, 19, _ => rfl
    | 0, 20, _ => rfl
    | 0, 21, _ => rfl
    | 0, 22, _ => rfl
    | 0, 23, _ => rfl
    | 0, 24, _ => rfl
    | 0, 25, _ => rfl
    | 0, 26, _ => rfl
    | 0, 27, _ => rfl
    | 0, _ + 28, _ => rfl
    | _ + 1, _, _ => rfl
theorem rU_9 (Γ : mG) (x : RS) (j : Nat) (v : Int32) : up2 (rA Γ x) 9 0 (.inl (Γ.2.1 2, 8, .inl (upd (x.2.1 9) j v))) = rA Γ (sA x 9 j v) := by
  funext a b
  by_cases h : a = 9 ∧ b = 0
  · obtain ⟨rfl, rfl⟩ := h
    simp [up2, rA, sA, va_up]
  · simp only [up2, if_neg h]
    match b, a, h with
    | 0, 0, _ => rfl
    | 0, 1, _ => rfl
    | 0, 2, _ => rfl
    | 0, 3, _ => rfl
    | 0, 4, _ => rfl
    | 0, 5, _ => rfl
    | 0, 6, _ => rfl
    | 0, 7, _ => rfl
    | 0, 8, _ => rfl
    | 0, 9, h => exact absurd ⟨rfl, rfl⟩ h
    | 0, 10, _ => rfl
    | 0, 11, _ => rfl
    | 0, 12, _ => rfl
    | 0, 13, _ => rfl
    | 0, 14, _ => rfl
    | 0, 15, _ => rfl
    | 0, 16, _ => rfl
    | 0, 17, _ => rfl
    | 0, 18, _ => rfl
    | 0, 19, _ => rfl
    | 0, 20, _ => rfl
    | 0, 21, _ => rfl
    | 0, 22, _ => rfl
    | 0, 23, _ => rfl
    | 0, 24, _ => rfl
    | 0, 25, _ => rfl
    | 0, 26, _ => rfl
    | 0, 27, _ => rfl
    | 0, _ + 28, _ => rfl
    | _ + 1, _, _ => rfl
theorem rU_11 (Γ : mG) (x : RS) (j : Nat) (v : Int32) : up2 (rA Γ x) 11 0 (.inl (Γ.2.1 0, 40, .inl (upd (x.2.1 11) j v))) = rA Γ (sA x 11 j v) := by
  funext a b
  by_cases h : a = 11 ∧ b = 0
  · obtain ⟨rfl, rfl⟩ := h
    simp [up2, rA, sA, va_up]
  · simp only [up2, if_neg h]
    match b, a, h with
    | 0, 0, _ => rfl
    | 0, 1, _ => rfl
    | 0, 2, _ => rfl
    | 0, 3, _ => rfl
    | 0, 4, _ => rfl
    | 0, 5, _ => rfl
    | 0, 6, _ => rfl
    | 0, 7, _ => rfl
    | 0, 8, _ => rfl
    | 0, 9, _ => rfl
    | 0, 10, _ => rfl
    | 0, 11, h => exact absurd ⟨rfl, rfl⟩ h
    | 0, 12, _ => rfl
    | 0, 13, _ => rfl
    | 0, 14, _ => rfl
    | 0, 15, _ => rfl
    | 0, 16, _ => rfl
    | 0, 17, _ => rfl
    | 0, 18, _ => rfl
    | 0, 19, _ => rfl
    | 0, 20, _ => rfl
    | 0, 21, _ => rfl
    | 0, 22, _ => rfl
    | 0, 23, _ => rfl
    | 0, 24, _ => rfl
    | 0, 25, _ => rfl
    | 0, 26, _ => rfl
    | 0, 27, _ => rfl
    | 0, _ + 28, _ => rfl
    | _ + 1, _, _ => rfl
theorem rU_12 (Γ : mG) (x : RS) (j : Nat) (v : Int32) : up2 (rA Γ x) 12 0 (.inl (Γ.2.1 0, 640, .inl (upd (x.2.1 12) j v))) = rA Γ (sA x 12 j v) := by
  funext a b
  by_cases h : a = 12 ∧ b = 0
  · obtain ⟨rfl, rfl⟩ := h
    simp [up2, rA, sA, va_up]
  · simp only [up2, if_neg h]
    match b, a, h with
    | 0, 0, _ => rfl
    | 0, 1, _ => rfl
    | 0, 2, _ => rfl
    | 0, 3, _ => rfl
    | 0, 4, _ => rfl
    | 0, 5, _ => rfl
    | 0, 6, _ => rfl
    | 0, 7, _ => rfl
    | 0, 8, _ => rfl
    | 0, 9, _ => rfl
    | 0, 10, _ => rfl
    | 0, 11, _ => rfl
    | 0, 12, h => exact absurd ⟨rfl, rfl⟩ h
    | 0, 13, _ => rfl
    | 0, 14, _ => rfl
    | 0, 15, _ => rfl
    | 0, 16, _ => rfl
    | 0, 17, _ => rfl
    | 0, 18, _ => rfl
    | 0, 19, _ => rfl
    | 0, 20, _ => rfl
    | 0, 21, _ => rfl
    | 0, 22, _ => rfl
    | 0, 23, _ => rfl
    | 0, 24, _ => rfl
    | 0, 25, _ => rfl
    | 0, 26, _ => rfl
    | 0, 27, _ => rfl
    | 0, _ + 28, _ => rfl
    | _ + 1, _, _ => rfl
theorem rU_14 (Γ : mG) (x : RS) (j : Nat) (v : Int32) : up2 (rA Γ x) 14 0 (.inl (Γ.2.1 0, 16, .inl (upd (x.2.1 14) j v))) = rA Γ (sA x 14 j v) := by
  funext a b
  by_cases h : a = 14 ∧ b = 0
  · obtain ⟨rfl, rfl⟩ := h
    simp [up2, rA, sA, va_up]
  · simp only [up2, if_neg h]
    match b, a, h with
    | 0, 0, _ => rfl
    | 0, 1, _ => rfl
    | 0, 2, _ => rfl
    | 0, 3, _ => rfl
    | 0, 4, _ => rfl
    | 0, 5, _ => rfl
    | 0, 6, _ => rfl
    | 0, 7, _ => rfl
    | 0, 8, _ => rfl
    | 0, 9, _ => rfl
    | 0, 10, _ => rfl
    | 0, 11, _ => rfl
    | 0, 12, _ => rfl
    | 0, 13, _ => rfl
    | 0, 14, h => exact absurd ⟨rfl, rfl⟩ h
    | 0, 15, _ => rfl
    | 0, 16, _ => rfl
    | 0, 17, _ => rfl
    | 0, 18, _ => rfl
    | 0, 19, _ => rfl
    | 0, 20, _ => rfl
    | 0, 21, _ => rfl
    | 0, 22, _ => rfl
    | 0, 23, _ => rfl
    | 0, 24, _ => rfl
    | 0, 25, _ => rfl
    | 0, 26, _ => rfl
    | 0, 27, _ => rfl
    | 0, _ + 28, _ => rfl
    | _ + 1, _, _ => rfl
theorem rU_17 (Γ : mG) (x : RS) (j : Nat) (v : Int32) : up2 (rA Γ x) 17 0 (.inl (Γ.2.1 0, 8, .inl (upd (x.2.1 17) j v))) = rA Γ (sA x 17 j v) := by
  funext a b
  by_cases h : a = 17 ∧ b = 0
  · obtain ⟨rfl, rfl⟩ := h
    simp [up2, rA, sA, va_up]
  · simp only [up2, if_neg h]
    match b, a, h with
    | 0, 0, _ => rfl
    | 0, 1, _ => rfl
    | 0, 2, _ => rfl
    | 0, 3, _ => rfl
    | 0, 4, _ => rfl
    | 0, 5, _ => rfl
    | 0, 6, _ => rfl
    | 0, 7, _ => rfl
    | 0, 8, _ => rfl
    | 0, 9, _ => rfl
    | 0, 10, _ => rfl
    | 0, 11, _ => rfl
    | 0, 12, _ => rfl
    | 0, 13, _ => rfl
    | 0, 14, _ => rfl
    | 0, 15, _ => rfl
    | 0, 16, _ => rfl
    | 0, 17, h => exact absurd ⟨rfl, rfl⟩ h
    | 0, 18, _ => rfl
    | 0, 19, _ => rfl
    | 0, 20, _ => rfl
    | 0, 21, _ => rfl
    | 0, 22, _ => rfl
    | 0, 23, _ => rfl
    | 0, 24, _ => rfl
    | 0, 25, _ => rfl
    | 0, 26, _ => rfl
    | 0, 27, _ => rfl
    | 0, _ + 28, _ => rfl
    | _ + 1, _, _ => rfl
theorem rU_18 (Γ : mG) (x : RS) (j : Nat) (v : Int64) : up2 (rA Γ x) 18 0 (.inl (Γ.2.1 1, 128, .inr (.inl (vp_updL (x.2.2 18) j v)))) = rA Γ (sJ x 18 j v) := by
  funext a b
  by_cases h : a = 18 ∧ b = 0
  · obtain ⟨rfl, rfl⟩ := h
    simp [up2, rA, sJ, va_up]
  · simp only [up2, if_neg h]
    match b, a, h with
    | 0, 0, _ => rfl
    | 0, 1, _ => rfl
    | 0, 2, _ => rfl
    | 0, 3, _ => rfl
    | 0, 4, _ => rfl
    | 0, 5, _ => rfl
    | 0, 6, _ => rfl
    | 0, 7, _ => rfl
    | 0, 8, _ => rfl
    | 0, 9, _ => rfl
    | 0, 10, _ => rfl
    | 0, 11, _ => rfl
    | 0, 12, _ => rfl
    | 0, 13, _ => rfl
    | 0, 14, _ => rfl
    | 0, 15, _ => rfl
    | 0, 16, _ => rfl
    | 0, 17, _ => rfl
    | 0, 18, h => exact absurd ⟨rfl, rfl⟩ h
    | 0, 19, _ => rfl
    | 0, 20, _ => rfl
    | 0, 21, _ => rfl
    | 0, 22, _ => rfl
    | 0, 23, _ => rfl
    | 0, 24, _ => rfl
    | 0, 25, _ => rfl
    | 0, 26, _ => rfl
    | 0, 27, _ => rfl
    | 0, _ + 28, _ => rfl
    | _ + 1, _, _ => rfl
theorem rU_19 (Γ : mG) (x : RS) (j : Nat) (v : Int32) : up2 (rA Γ x) 19 0 (.inl (Γ.2.1 0, 8, .inl (upd (x.2.1 19) j v))) = rA Γ (sA x 19 j v) := by
  funext a b
  by_cases h : a = 19 ∧ b = 0
  · obtain ⟨rfl, rfl⟩ := h
    simp [up2, rA, sA, va_up]
  · simp only [up2, if_neg h]
    match b, a, h with
    | 0, 0, _ => rfl
    | 0, 1, _ => rfl
    | 0, 2, _ => rfl
    | 0, 3, _ => rfl
    | 0, 4, _ => rfl
    | 0, 5, _ => rfl
    | 0, 6, _ => rfl
    | 0, 7, _ => rfl
    | 0, 8, _ => rfl
    | 0, 9, _ => rfl
    | 0, 10, _ => rfl
    | 0, 11, _ => rfl
    | 0, 12, _ => rfl
    | 0, 13, _ => rfl
    | 0, 14, _ => rfl
    | 0, 15, _ => rfl
    | 0, 16, _ => rfl
    | 0, 17, _ => rfl
    | 0, 18, _ => rfl
    | 0, 19, h => exact absurd ⟨rfl, rfl⟩ h
    | 0, 20, _ => rfl
    | 0, 21, _ => rfl
    | 0, 22, _ => rfl
    | 0, 23, _ => rfl
    | 0, 24, _ => rfl
    | 0, 25, _ => rfl
    | 0, 26, _ => rfl
    | 0, 27, _ => rfl
    | 0, _ + 28, _ => rfl
    | _ + 1, _, _ => rfl
theorem rU_20 (Γ : mG) (x : RS) (j : Nat) (v : Int32) : up2 (rA Γ x) 20 0 (.inl (Γ.2.1 0, 8, .inl (upd (x.2.1 20) j v))) = rA Γ (sA x 20 j v) := by
  funext a b
  by_cases h : a = 20 ∧ b = 0
  · obtain ⟨rfl, rfl⟩ := h
    simp [up2, rA, sA, va_up]
  · simp only [up2, if_neg h]
    match b, a, h with
    | 0, 0, _ => rfl
    | 0, 1, _ => rfl
    | 0, 2, _ => rfl
    | 0, 3, _ => rfl
    | 0, 4, _ => rfl
    | 0, 5, _ => rfl
    | 0, 6, _ => rfl
    | 0, 7, _ => rfl
    | 0, 8, _ => rfl
    | 0, 9, _ => rfl
    | 0, 10, _ => rfl
    | 0, 11, _ => rfl
    | 0, 12, _ => rfl
    | 0, 13, _ => rfl
    | 0, 14, _ => rfl
    | 0, 15, _ => rfl
    | 0, 16, _ => rfl
    | 0, 17, _ => rfl
    | 0, 18, _ => rfl
    | 0, 19, _ => rfl
    | 0, 20, h => exact absurd ⟨rfl, rfl⟩ h
    | 0, 21, _ => rfl
    | 0, 22, _ => rfl
    | 0, 23, _ => rfl
    | 0, 24, _ => rfl
    | 0, 25, _ => rfl
    | 0, 26, _ => rfl
    | 0, 27, _ => rfl
    | 0, _ + 28, _ => rfl
    | _ + 1, _, _ => rfl
theorem rU_21 (Γ : mG) (x : RS) (j : Nat) (v : Int32) : up2 (rA Γ x) 21 0 (.inl (Γ.2.1 0, 8, .inl (upd (x.2.1 21) j v))) = rA Γ (sA x 21 j v) := by
  funext a b
  by_cases h : a = 21 ∧ b = 0
  · obtain ⟨rfl, rfl⟩ := h
    simp [up2, rA, sA, va_up]
  · simp only [up2, if_neg h]
    match b, a, h with
    | 0, 0, _ => rfl
    | 0, 1, _ => rfl
    | 0, 2, _ => rfl
    | 0, 3, _ => rfl
    | 0, 4, _ => rfl
    | 0, 5, _ => rfl
    | 0, 6, _ => rfl
    | 0, 7, _ => rfl
    | 0, 8, _ => rfl
    | 0, 9, _ => rfl
    | 0, 10, _ => rfl
    | 0, 11, _ => rfl
    | 0, 12, _ => rfl
    | 0, 13, _ => rfl
    | 0, 14, _ => rfl
    | 0, 15, _ => rfl
    | 0, 16, _ => rfl
    | 0, 17, _ => rfl
    | 0, 18, _ => rfl
    | 0, 19, _ => rfl
    | 0, 20, _ => rfl
    | 0, 21, h => exact absurd ⟨rfl, rfl⟩ h
    | 0, 22, _ => rfl
    | 0, 23, _ => rfl
    | 0, 24, _ => rfl
    | 0, 25, _ => rfl
    | 0, 26, _ => rfl
    | 0, 27, _ => rfl
    | 0, _ + 28, _ => rfl
    | _ + 1, _, _ => rfl
theorem rU_24 (Γ : mG) (x : RS) (j : Nat) (v : Int32) : up2 (rA Γ x) 24 0 (.inl (Γ.2.1 0, 20, .inl (upd (x.2.1 24) j v))) = rA Γ (sA x 24 j v) := by
  funext a b
  by_cases h : a = 24 ∧ b = 0
  · obtain ⟨rfl, rfl⟩ := h
    simp [up2, rA, sA, va_up]
  · simp only [up2, if_neg h]
    match b, a, h with
    | 0, 0, _ => rfl
    | 0, 1, _ => rfl
    | 0, 2, _ => rfl
    | 0, 3, _ => rfl
    | 0, 4, _ => rfl
    | 0, 5, _ => rfl
    | 0, 6, _ => rfl
    | 0, 7, _ => rfl
    | 0, 8, _ => rfl
    | 0, 9, _ => rfl
    | 0, 10, _ => rfl
    | 0, 11, _ => rfl
    | 0, 12, _ => rfl
    | 0, 13, _ => rfl
    | 0, 14, _ => rfl
    | 0, 15, _ => rfl
    | 0, 16, _ => rfl
    | 0, 17, _ => rfl
    | 0, 18, _ => rfl
    | 0, 19, _ => rfl
    | 0, 20, _ => rfl
    | 0, 21, _ => rfl
    | 0, 22, _ => rfl
    | 0, 23, _ => rfl
    | 0, 24, h => exact absurd ⟨rfl, rfl⟩ h
    | 0, 25, _ => rfl
    | 0, 26, _ => rfl
    | 0, 27, _ => rfl
    | 0, _ + 28, _ => rfl
    | _ + 1, _, _ => rfl
theorem rU_25 (Γ : mG) (x : RS) (j : Nat) (v : Int32) : up2 (rA Γ x) 25 0 (.inl (Γ.2.1 0, 20, .inl (upd (x.2.1 25) j v))) = rA Γ (sA x 25 j v) := by
  funext a b
  by_cases h : a = 25 ∧ b = 0
  · obtain ⟨rfl, rfl⟩ := h
    simp [up2, rA, sA, va_up]
  · simp only [up2, if_neg h]
    match b, a, h with
    | 0, 0, _ => rfl
    | 0, 1, _ => rfl
    | 0, 2, _ => rfl
    | 0, 3, _ => rfl
    | 0, 4, _ => rfl
    | 0, 5, _ => rfl
    | 0, 6, _ => rfl
    | 0, 7, _ => rfl
    | 0, 8, _ => rfl
    | 0, 9, _ => rfl
    | 0, 10, _ => rfl
    | 0, 11, _ => rfl
    | 0, 12, _ => rfl
    | 0, 13, _ => rfl
    | 0, 14, _ => rfl
    | 0, 15, _ => rfl
    | 0, 16, _ => rfl
    | 0, 17, _ => rfl
    | 0, 18, _ => rfl
    | 0, 19, _ => rfl
    | 0, 20, _ => rfl
    | 0, 21, _ => rfl
    | 0, 22, _ => rfl
    | 0, 23, _ => rfl
    | 0, 24, _ => rfl
    | 0, 25, h => exact absurd ⟨rfl, rfl⟩ h
    | 0, 26, _ => rfl
    | 0, 27, _ => rfl
    | 0, _ + 28, _ => rfl
    | _ + 1, _, _ => rfl
theorem rU_26 (Γ : mG) (x : RS) (j : Nat) (v : Int32) : up2 (rA Γ x) 26 0 (.inl (Γ.2.1 0, 20, .inl (upd (x.2.1 26) j v))) = rA Γ (sA x 26 j v) := by
  funext a b
  by_cases h : a = 26 ∧ b = 0
  · obtain ⟨rfl, rfl⟩ := h
    simp [up2, rA, sA, va_up]
  · simp only [up2, if_neg h]
    match b, a, h with
    | 0, 0, _ => rfl
    | 0, 1, _ => rfl
    | 0, 2, _ => rfl
    | 0, 3, _ => rfl
    | 0, 4, _ => rfl
    | 0, 5, _ => rfl
    | 0, 6, _ => rfl
    | 0, 7, _ => rfl
    | 0, 8, _ => rfl
    | 0, 9, _ => rfl
    | 0, 10, _ => rfl
    | 0, 11, _ => rfl
    | 0, 12, _ => rfl
    | 0, 13, _ => rfl
    | 0, 14, _ => rfl
    | 0, 15, _ => rfl
    | 0, 16, _ => rfl
    | 0, 17, _ => rfl
    | 0, 18, _ => rfl
    | 0, 19, _ => rfl
    | 0, 20, _ => rfl
    | 0, 21, _ => rfl
    | 0, 22, _ => rfl
    | 0, 23, _ => rfl
    | 0, 24, _ => rfl
    | 0, 25, _ => rfl
    | 0, 26, h => exact absurd ⟨rfl, rfl⟩ h
    | 0, 27, _ => rfl
    | 0, _ + 28, _ => rfl
    | _ + 1, _, _ => rfl
theorem rU_27 (Γ : mG) (x : RS) (j : Nat) (v : Int64) : up2 (rA Γ x) 27 0 (.inl (Γ.2.1 1, 600, .inr (.inl (vp_updL (x.2.2 27) j v)))) = rA Γ (sJ x 27 j v) := by
  funext a b
  by_cases h : a = 27 ∧ b = 0
  · obtain ⟨rfl, rfl⟩ := h
    simp [up2, rA, sJ, va_up]
  · simp only [up2, if_neg h]
    match b, a, h with
    | 0, 0, _ => rfl
    | 0, 1, _ => rfl
    | 0, 2, _ => rfl
    | 0, 3, _ => rfl
    | 0, 4, _ => rfl
    | 0, 5, _ => rfl
    | 0, 6, _ => rfl
    | 0, 7, _ => rfl
    | 0, 8, _ => rfl
    | 0, 9, _ => rfl
    | 0, 10, _ => rfl
    | 0, 11, _ => rfl
    | 0, 12, _ => rfl
    | 0, 13, _ => rfl
    | 0, 14, _ => rfl
    | 0, 15, _ => rfl
    | 0, 16, _ => rfl
    | 0, 17, _ => rfl
    | 0, 18, _ => rfl
    | 0, 19, _ => rfl
    | 0, 20, _ => rfl
    | 0, 21, _ => rfl
    | 0, 22, _ => rfl
    | 0, 23, _ => rfl
    | 0, 24, _ => rfl
    | 0, 25, _ => rfl
    | 0, 26, _ => rfl
    | 0, 27, h => exact absurd ⟨rfl, rfl⟩ h
    | 0, _ + 28, _ => rfl
    | _ + 1, _, _ => rfl
section RR
variable {p : Program} {l : Launch} {e : Env} {R : Room} {s : State} {m : MethodId} {args : Array Value} {below : List Frame} {meth : Method} {c : Code} {H : Heap} {locs : List Loc} {cells slots : Nat} {Q : State → Prop}
variable {cc : ByteArray} {pc nL : Nat} {ls : Array Slot} {rest : List Value} {Γ : mG} {A : Nat → Prop} {L : mI → Nat} {x : RS}
theorem r_get0 (X : mX Γ p m c cc nL s args RX10 A) (hw : mW Γ.1 vwCl A L (rM Γ L x) H) (hdg : decode cc pc = .ok (.getfield 75, 3)) (kk : W p l e R s m args below meth c H locs cells slots Q (F0 m (pc + 3) ls (.int (x.1 0) :: rest))) : W p l e R s m args below meth c H locs cells slots Q (F0 m pc ls (.ref (L (.inl 0)) :: rest)) := m_get X hw (i := .inl 0) (ci := 8) rfl rfl gX10 0 (by decide) fl_X10_75 rfl rfl hdg kk
theorem r_put0 {v : Int32} (X : mX Γ p m c cc nL s args RX10 A) (hw : mW Γ.1 vwCl A L (rM Γ L x) H) (hS : va_S A s.heap H locs) (hdg : decode cc pc = .ok (.putfield 75, 3)) (kk : ∀ (H1 : Heap) (locs1 : List Loc), mW Γ.1 vwCl A L (rM Γ L (sS x 0 v)) H1 → va_S A s.heap H1 locs1 → W p l e R s m args below meth c H1 locs1 cells slots Q (F0 m (pc + 3) ls rest)) : W p l e R s m args below meth c H locs cells slots Q (F0 m pc ls (.int v :: .ref (L (.inl 0)) :: rest)) := m_put X hw hS (i := .inl 0) (ci := 8) (ty := .int) rfl rfl gX10 tyX10 tyX10_ok nmX10 0 (by decide) fl_X10_75 rfl rfl rfl rfl rfl (show 0 < 35 by decide) hdg kk
theorem r_get1 (X : mX Γ p m c cc nL s args RX10 A) (hw : mW Γ.1 vwCl A L (rM Γ L x) H) (hdg : decode cc pc = .ok (.getfield 7, 3)) (kk : W p l e R s m args below meth c H locs cells slots Q (F0 m (pc + 3) ls (.ref (L (.inr (0, 1, 0))) :: rest))) : W p l e R s m args below meth c H locs cells slots Q (F0 m pc ls (.ref (L (.inl 0)) :: rest)) := m_get X hw (i := .inl 0) (ci := 8) rfl rfl gX10 1 (by decide) fl_X10_7 rfl rfl hdg kk
theorem r_ald1 {i : Int32} (X : mX Γ p m c cc nL s args RX10 A) (hw : mW Γ.1 vwCl A L (rM Γ L x) H) (hin : vp_in i 8) (hdg : decode cc pc = .ok (.iaload, 1)) (kk : W p l e R s m args below meth c H locs cells slots Q (F0 m (pc + 1) ls (.int (x.2.1 1 i.toNatClampNeg) :: rest))) : W p l e R s m args below meth c H locs cells slots Q (F0 m pc ls (.int i :: .ref (L (.inr (0, 1, 0))) :: rest)) := m_iald X hw (i := .inr (0, 1, 0)) rfl hin hdg kk
theorem r_ast1 {i v : Int32} (X : mX Γ p m c cc nL s args RX10 A) (hw : mW Γ.1 vwCl A L (rM Γ L x) H) (hS : va_S A s.heap H locs) (hin : vp_in i 8) (hdg : decode cc pc = .ok (.iastore, 1)) (kk : ∀ (H1 : Heap) (locs1 : List Loc), mW Γ.1 vwCl A L (rM Γ L (sA x 1 i.toNatClampNeg v)) H1 → va_S A s.heap H1 locs1 → W p l e R s m args below meth c H1 locs1 cells slots Q (F0 m (pc + 1) ls rest)) : W p l e R s m args below meth c H locs cells slots Q (F0 m pc ls (.int v :: .int i :: .ref (L (.inr (0, 1, 0))) :: rest)) := m_iast X hw hS (i := .inr (0, 1, 0)) rfl hin hdg (fun H1 locs1 h1 h2 => kk H1 locs1 (by have e := rU_1 Γ x i.toNatClampNeg v; show mW Γ.1 vwCl A L ([.inr (8, rF L x)], [rA Γ (sA x 1 i.toNatClampNeg v)]) H1; rw [← e]; exact h1) h2)
theorem r_get2 (X : mX Γ p m c cc nL s args RX10 A) (hw : mW Γ.1 vwCl A L (rM Γ L x) H) (hdg : decode cc pc = .ok (.getfield 13, 3)) (kk : W p l e R s m args below meth c H locs cells slots Q (F0 m (pc + 3) ls (.ref (L (.inr (0, 2, 0))) :: rest))) : W p l e R s m args below meth c H locs cells slots Q (F0 m pc ls (.ref (L (.inl 0)) :: rest)) := m_get X hw (i := .inl 0) (ci := 8) rfl rfl gX10 2 (by decide) fl_X10_13 rfl rfl hdg kk
theorem r_ald2 {i : Int32} (X : mX Γ p m c cc nL s args RX10 A) (hw : mW Γ.1 vwCl A L (rM Γ L x) H) (hin : vp_in i 8) (hdg : decode cc pc = .ok (.iaload, 1)) (kk : W p l e R s m args below meth c H locs cells slots Q (F0 m (pc + 1) ls (.int (x.2.1 2 i.toNatClampNeg) :: rest))) : W p l e R s m args below meth c H locs cells slots Q (F0 m pc ls (.int i :: .ref (L (.inr (0, 2, 0))) :: rest)) := m_iald X hw (i := .inr (0, 2, 0)) rfl hin hdg kk
theorem r_ast2 {i v : Int32} (X : mX Γ p m c cc nL s args RX10 A) (hw : mW Γ.1 vwCl A L (rM Γ L x) H) (hS : va_S A s.heap H locs) (hin : vp_in i 8) (hdg : decode cc pc = .ok (.iastore, 1)) (kk : ∀ (H1 : Heap) (locs1 : List Loc), mW Γ.1 vwCl A L (rM Γ L (sA x 2 i.toNatClampNeg v)) H1 → va_S A s.heap H1 locs1 → W p l e R s m args below meth c H1 locs1 cells slots Q (F0 m (pc + 1) ls rest)) : W p l e R s m args below meth c H locs cells slots Q (F0 m pc ls (.int v :: .int i :: .ref (L (.inr (0, 2, 0))) :: rest)) := m_iast X hw hS (i := .inr (0, 2, 0)) rfl hin hdg (fun H1 locs1 h1 h2 => kk H1 locs1 (by have e := rU_2 Γ x i.toNatClampNeg v; show mW Γ.1 vwCl A L ([.inr (8, rF L x)], [rA Γ (sA x 2 i.toNatClampNeg v)]) H1; rw [← e]; exact h1) h2)
theorem r_get3 (X : mX Γ p m c cc nL s args RX10 A) (hw : mW Γ.1 vwCl A L (rM Γ L x) H) (hdg : decode cc pc = .ok (.getfield 16, 3)) (kk : W p l e R s m args below meth c H locs cells slots Q (F0 m (pc + 3) ls (.ref (L (.inr (0, 3, 0))) :: rest))) : W p l e R s m args below meth c H locs cells slots Q (F0 m pc ls (.ref (L (.inl 0)) :: rest)) := m_get X hw (i := .inl 0) (ci := 8) rfl rfl gX10 3 (by decide) fl_X10_16 rfl rfl hdg kk
theorem r_ald3 {i : Int32} (X : mX Γ p m c cc nL s args RX10 A) (hw : mW Γ.1 vwCl A L (rM Γ L x) H) (hin : vp_in i 320) (hdg : decode cc pc = .ok (.iaload, 1)) (kk : W p l e R s m args below meth c H locs cells slots Q (F0 m (pc + 1) ls (.int (x.2.1 3 i.toNatClampNeg) :: rest))) : W p l e R s m args below meth c H locs cells slots Q (F0 m pc ls (.int i :: .ref (L (.inr (0, 3, 0))) :: rest)) := m_iald X hw (i := .inr (0, 3, 0)) rfl hin hdg kk
theorem r_ast3 {i v : Int32} (X : mX Γ p m c cc nL s args RX10 A) (hw : mW Γ.1 vwCl A L (rM Γ L x) H) (hS : va_S A s.heap H locs) (hin : vp_in i 320) (hdg : decode cc pc = .ok (.iastore, 1)) (kk : ∀ (H1 : Heap) (locs1 : List Loc), mW Γ.1 vwCl A L (rM Γ L (sA x 3 i.toNatClampNeg v)) H1 → va_S A s.heap H1 locs1 → W p l e R s m args below meth c H1 locs1 cells slots Q (F0 m (pc + 1) ls rest)) : W p l e R s m args below meth c H locs cells slots Q (F0 m pc ls (.int v :: .int i :: .ref (L (.inr (0, 3, 0))) :: rest)) := m_iast X hw hS (i := .inr (0, 3, 0)) rfl hin hdg (fun H1 locs1 h1 h2 => kk H1 locs1 (by have e := rU_3 Γ x i.toNatClampNeg v; show mW Γ.1 vwCl A L ([.inr (8, rF L x)], [rA Γ (sA x 3 i.toNatClampNeg v)]) H1; rw [← e]; exact h1) h2)
theorem r_get4 (X : mX Γ p m c cc nL s args RX10 A) (hw : mW Γ.1 vwCl A L (rM Γ L x) H) (hdg : decode cc pc = .ok (.getfield 19, 3)) (kk : W p l e R s m args below meth c H locs cells slots Q (F0 m (pc + 3) ls (.ref (L (.inr (0, 4, 0))) :: rest))) : W p l e R s m args below meth c H locs cells slots Q (F0 m pc ls (.ref (L (.inl 0)) :: rest)) := m_get X hw (i := .inl 0) (ci := 8) rfl rfl gX10 4 (by decide) fl_X10_19 rfl rfl hdg kk
theorem r_ald4 {i : Int32} (X : mX Γ p m c cc nL s args RX10 A) (hw : mW Γ.1 vwCl A L (rM Γ L x) H) (hin : vp_in i 320) (hdg : decode cc pc = .ok (.laload, 1)) (kk : W p l e R s m args below meth c H locs cells slots Q (F0 m (pc + 1) ls (.long (x.2.2 4 i.toNatClampNeg) :: rest))) : W p l e R s m args below meth c H locs cells slots Q (F0 m pc ls (.int i :: .ref (L (.inr (0, 4, 0))) :: rest)) := m_lald X hw (i := .inr (0, 4, 0)) rfl hin hdg kk
theorem r_ast4 {i : Int32} {v : Int64} (X : mX Γ p m c cc nL s args RX10 A) (hw : mW Γ.1 vwCl A L (rM Γ L x) H) (hS : va_S A s.heap H locs) (hin : vp_in i 320) (hdg : decode cc pc = .ok (.lastore, 1)) (kk : ∀ (H1 : Heap) (locs1 : List Loc), mW Γ.1 vwCl A L (rM Γ L (sJ x 4 i.toNatClampNeg v)) H1 → va_S A s.heap H1 locs1 → W p l e R s m args below meth c H1 locs1 cells slots Q (F0 m (pc + 1) ls rest)) : W p l e R s m args below meth c H locs cells slots Q (F0 m pc ls (.long v :: .int i :: .ref (L (.inr (0, 4, 0))) :: rest)) := m_last X hw hS (i := .inr (0, 4, 0)) rfl hin hdg (fun H1 locs1 h1 h2 => kk H1 locs1 (by have e := rU_4 Γ x i.toNatClampNeg v; show mW Γ.1 vwCl A L ([.inr (8, rF L x)], [rA Γ (sJ x 4 i.toNatClampNeg v)]) H1; rw [← e]; exact h1) h2)
theorem r_get5 (X : mX Γ p m c cc nL s args RX10 A) (hw : mW Γ.1 vwCl A L (rM Γ L x) H) (hdg : decode cc pc = .ok (.getfield 23, 3)) (kk : W p l e R s m args below meth c H locs cells slots Q (F0 m (pc + 3) ls (.ref (L (.inr (0, 5, 0))) :: rest))) : W p l e R s m args below meth c H locs cells slots Q (F0 m pc ls (.ref (L (.inl 0)) :: rest)) := m_get X hw (i := .inl 0) (ci := 8) rfl rfl gX10 5 (by decide) fl_X10_23 rfl rfl hdg kk
theorem r_ald5 {i : Int32} (X : mX Γ p m c cc nL s args RX10 A) (hw : mW Γ.1 vwCl A L (rM Γ L x) H) (hin : vp_in i 8) (hdg : decode cc pc = .ok (.iaload, 1)) (kk : W p l e R s m args below meth c H locs cells slots Q (F0 m (pc + 1) ls (.int (x.2.1 5 i.toNatClampNeg) :: rest))) : W p l e R s m args below meth c H locs cells slots Q (F0 m pc ls (.int i :: .ref (L (.inr (0, 5, 0))) :: rest)) := m_iald X hw (i := .inr (0, 5, 0)) rfl hin hdg kk
theorem r_ast5 {i v : Int32} (X : mX Γ p m c cc nL s args RX10 A) (hw : mW Γ.1 vwCl A L (rM Γ L x) H) (hS : va_S A s.heap H locs) (hin : vp_in i 8) (hdg : decode cc pc = .ok (.iastore, 1)) (kk : ∀ (H1 : Heap) (locs1 : List Loc), mW Γ.1 vwCl A L (rM Γ L (sA x 5 i.toNatClampNeg v)) H1 → va_S A s.heap H1 locs1 → W p l e R s m args below meth c H1 locs1 cells slots Q (F0 m (pc + 1) ls rest)) : W p l e R s m args below meth c H locs cells slots Q (F0 m pc ls (.int v :: .int i :: .ref (L (.inr (0, 5, 0))) :: rest)) := m_iast X hw hS (i := .inr (0, 5, 0)) rfl hin hdg (fun H1 locs1 h1 h2 => kk H1 locs1 (by have e := rU_5 Γ x i.toNatClampNeg v; show mW Γ.1 vwCl A L ([.inr (8, rF L x)], [rA Γ (sA x 5 i.toNatClampNeg v)]) H1; rw [← e]; exact h1) h2)
theorem r_get6 (X : mX Γ p m c cc nL s args RX10 A) (hw : mW Γ.1 vwCl A L (rM Γ L x) H) (hdg : decode cc pc = .ok (.getfield 26, 3)) (kk : W p l e R s m args below meth c H locs cells slots Q (F0 m (pc + 3) ls (.ref (L (.inr (0, 6, 0))) :: rest))) : W p l e R s m args below meth c H locs cells slots Q (F0 m pc ls (.ref (L (.inl 0)) :: rest)) := m_get X hw (i := .inl 0) (ci := 8) rfl rfl gX10 6 (by decide) fl_X10_26 rfl rfl hdg kk
theorem r_ald6 {i : Int32} (X : mX Γ p m c cc nL s args RX10 A) (hw : mW Γ.1 vwCl A L (rM Γ L x) H) (hin : vp_in i 192) (hdg : decode cc pc = .ok (.iaload, 1)) (kk : W p l e R s m args below meth c H locs cells slots Q (F0 m (pc + 1) ls (.int (x.2.1 6 i.toNatClampNeg) :: rest))) : W p l e R s m args below meth c H locs cells slots Q (F0 m pc ls (.int i :: .ref (L (.inr (0, 6, 0))) :: rest)) := m_iald X hw (i := .inr (0, 6, 0)) rfl hin hdg kk
theorem r_ast6 {i v : Int32} (X : mX Γ p m c cc nL s args RX10 A) (hw : mW Γ.1 vwCl A L (rM Γ L x) H) (hS : va_S A s.heap H locs) (hin : vp_in i 192) (hdg : decode cc pc = .ok (.iastore, 1)) (kk : ∀ (H1 : Heap) (locs1 : List Loc), mW Γ.1 vwCl A L (rM Γ L (sA x 6 i.toNatClampNeg v)) H1 → va_S A s.heap H1 locs1 → W p l e R s m args below meth c H1 locs1 cells slots Q (F0 m (pc + 1) ls rest)) : W p l e R s m args below meth c H locs cells slots Q (F0 m pc ls (.int v :: .int i :: .ref (L (.inr (0, 6, 0))) :: rest)) := m_iast X hw hS (i := .inr (0, 6, 0)) rfl hin hdg (fun H1 locs1 h1 h2 => kk H1 locs1 (by have e := rU_6 Γ x i.toNatClampNeg v; show mW Γ.1 vwCl A L ([.inr (8, rF L x)], [rA Γ (sA x 6 i.toNatClampNeg v)]) H1; rw [← e]; exact h1) h2)
theorem r_get7 (X : mX Γ p m c cc nL s args RX10 A) (hw : mW Γ.1 vwCl A L (rM Γ L x) H) (hdg : decode cc pc = .ok (.getfield 29, 3)) (kk : W p l e R s m args below meth c H locs cells slots Q (F0 m (pc + 3) ls (.ref (L (.inr (0, 7, 0))) :: rest))) : W p l e R s m args below meth c H locs cells slots Q (F0 m pc ls (.ref (L (.inl 0)) :: rest)) := m_get X hw (i := .inl 0) (ci := 8) rfl rfl gX10 7 (by decide) fl_X10_29 rfl rfl hdg kk
theorem r_ald7 {i : Int32} (X : mX Γ p m c cc nL s args RX10 A) (hw : mW Γ.1 vwCl A L (rM Γ L x) H) (hin : vp_in i 320) (hdg : decode cc pc = .ok (.iaload, 1)) (kk : W p l e R s m args below meth c H locs cells slots Q (F0 m (pc + 1) ls (.int (x.2.1 7 i.toNatClampNeg) :: rest))) : W p l e R s m args below meth c H locs cells slots Q (F0 m pc ls (.int i :: .ref (L (.inr (0, 7, 0))) :: rest)) := m_iald X hw (i := .inr (0, 7, 0)) rfl hin hdg kk
theorem r_ast7 {i v : Int32} (X : mX Γ p m c cc nL s args RX10 A) (hw : mW Γ.1 vwCl A L (rM Γ L x) H) (hS : va_S A s.heap H locs) (hin : vp_in i 320) (hdg : decode cc pc = .ok (.iastore, 1)) (kk : ∀ (H1 : Heap) (locs1 : List Loc), mW Γ.1 vwCl A L (rM Γ L (sA x 7 i.toNatClampNeg v)) H1 → va_S A s.heap H1 locs1 → W p l e R s m args below meth c H1 locs1 cells slots Q (F0 m (pc + 1) ls rest)) : W p l e R s m args below meth c H locs cells slots Q (F0 m pc ls (.int v :: .int i :: .ref (L (.inr (0, 7, 0))) :: rest)) := m_iast X hw hS (i := .inr (0, 7, 0)) rfl hin hdg (fun H1 locs1 h1 h2 => kk H1 locs1 (by have e := rU_7 Γ x i.toNatClampNeg v; show mW Γ.1 vwCl A L ([.inr (8, rF L x)], [rA Γ (sA x 7 i.toNatClampNeg v)]) H1; rw [← e]; exact h1) h2)
theorem r_get8 (X : mX Γ p m c cc nL s args RX10 A) (hw : mW Γ.1 vwCl A L (rM Γ L x) H) (hdg : decode cc pc = .ok (.getfield 32, 3)) (kk : W p l e R s m args below meth c H locs cells slots Q (F0 m (pc + 3) ls (.ref (L (.inr (0, 8, 0))) :: rest))) : W p l e R s m args below meth c H locs cells slots Q (F0 m pc ls (.ref (L (.inl 0)) :: rest)) := m_get X hw (i := .inl 0) (ci := 8) rfl rfl gX10 8 (by decide) fl_X10_32 rfl rfl hdg kk
theorem r_ald8 {i : Int32} (X : mX Γ p m c cc nL s args RX10 A) (hw : mW Γ.1 vwCl A L (rM Γ L x) H) (hin : vp_in i 5120) (hdg : decode cc pc = .ok (.iaload, 1)) (kk : W p l e R s m args below meth c H locs cells slots Q (F0 m (pc + 1) ls (.int (x.2.1 8 i.toNatClampNeg) :: rest))) : W p l e R s m args below meth c H locs cells slots Q (F0 m pc ls (.int i :: .ref (L (.inr (0, 8, 0))) :: rest)) := m_iald X hw (i := .inr (0, 8, 0)) rfl hin hdg kk
theorem r_ast8 {i v : Int32} (X : mX Γ p m c cc nL s args RX10 A) (hw : mW Γ.1 vwCl A L (rM Γ L x) H) (hS : va_S A s.heap H locs) (hin : vp_in i 5120) (hdg : decode cc pc = .ok (.iastore, 1)) (kk : ∀ (H1 : Heap) (locs1 : List Loc), mW Γ.1 vwCl A L (rM Γ L (sA x 8 i.toNatClampNeg v)) H1 → va_S A s.heap H1 locs1 → W p l e R s m args below meth c H1 locs1 cells slots Q (F0 m (pc + 1) ls rest)) : W p l e R s m args below meth c H locs cells slots Q (F0 m pc ls (.int v :: .int i :: .ref (L (.inr (0, 8, 0))) :: rest)) := m_iast X hw hS (i := .inr (0, 8, 0)) rfl hin hdg (fun H1 locs1 h1 h2 => kk H1 locs1 (by have e := rU_8 Γ x i.toNatClampNeg v; show mW Γ.1 vwCl A L ([.inr (8, rF L x)], [rA Γ (sA x 8 i.toNatClampNeg v)]) H1; rw [← e]; exact h1) h2)
theorem r_get9 (X : mX Γ p m c cc nL s args RX10 A) (hw : mW Γ.1 vwCl A L (rM Γ L x) H) (hdg : decode cc pc = .ok (.getfield 35, 3)) (kk : W p l e R s m args below meth c H locs cells slots Q (F0 m (pc + 3) ls (.ref (L (.inr (0, 9, 0))) :: rest))) : W p l e R s m args below meth c H locs cells slots Q (F0 m pc ls (.ref (L (.inl 0)) :: rest)) := m_get X hw (i := .inl 0) (ci := 8) rfl rfl gX10 9 (by decide) fl_X10_35 rfl rfl hdg kk
theorem r_ald9 {i : Int32} (X : mX Γ p m c cc nL s args RX10 A) (hw : mW Γ.1 vwCl A L (rM Γ L x) H) (hin : vp_in i 8) (hdg : decode cc pc = .ok (.baload, 1)) (kk : W p l e R s m args below meth c H locs cells slots Q (F0 m (pc + 1) ls (.int (x.2.1 9 i.toNatClampNeg) :: rest))) : W p l e R s m args below meth c H locs cells slots Q (F0 m pc ls (.int i :: .ref (L (.inr (0, 9, 0))) :: rest)) := m_zald X hw (i := .inr (0, 9, 0)) rfl hin hdg kk
theorem r_ast9 {i v : Int32} (X : mX Γ p m c cc nL s args RX10 A) (hw : mW Γ.1 vwCl A L (rM Γ L x) H) (hS : va_S A s.heap H locs) (hin : vp_in i 8) (hdg : decode cc pc = .ok (.bastore, 1)) (kk : ∀ (H1 : Heap) (locs1 : List Loc), mW Γ.1 vwCl A L (rM Γ L (sA x 9 i.toNatClampNeg (vp_nar .boolean v))) H1 → va_S A s.heap H1 locs1 → W p l e R s m args below meth c H1 locs1 cells slots Q (F0 m (pc + 1) ls rest)) : W p l e R s m args below meth c H locs cells slots Q (F0 m pc ls (.int v :: .int i :: .ref (L (.inr (0, 9, 0))) :: rest)) := m_zast X hw hS (i := .inr (0, 9, 0)) rfl hin hdg (fun H1 locs1 h1 h2 => kk H1 locs1 (by have e := rU_9 Γ x i.toNatClampNeg (vp_nar .boolean v); show mW Γ.1 vwCl A L ([.inr (8, rF L x)], [rA Γ (sA x 9 i.toNatClampNeg (vp_nar .boolean v))]) H1; rw [← e]; exact h1) h2)
theorem r_get11 (X : mX Γ p m c cc nL s args RX10 A) (hw : mW Γ.1 vwCl A L (rM Γ L x) H) (hdg : decode cc pc = .ok (.getfield 39, 3)) (kk : W p l e R s m args below meth c H locs cells slots Q (F0 m (pc + 3) ls (.ref (L (.inr (0, 11, 0))) :: rest))) : W p l e R s m args below meth c H locs cells slots Q (F0 m pc ls (.ref (L (.inl 0)) :: rest)) := m_get X hw (i := .inl 0) (ci := 8) rfl rfl gX10 11 (by decide) fl_X10_39 rfl rfl hdg kk
theorem r_ald11 {i : Int32} (X : mX Γ p m c cc nL s args RX10 A) (hw : mW Γ.1 vwCl A L (rM Γ L x) H) (hin : vp_in i 40) (hdg : decode cc pc = .ok (.iaload, 1)) (kk : W p l e R s m args below meth c H locs cells slots Q (F0 m (pc + 1) ls (.int (x.2.1 11 i.toNatClampNeg) :: rest))) : W p l e R s m args below meth c H locs cells slots Q (F0 m pc ls (.int i :: .ref (L (.inr (0, 11, 0))) :: rest)) := m_iald X hw (i := .inr (0, 11, 0)) rfl hin hdg kk
theorem r_ast11 {i v : Int32} (X : mX Γ p m c cc nL s args RX10 A) (hw : mW Γ.1 vwCl A L (rM Γ L x) H) (hS : va_S A s.heap H locs) (hin : vp_in i 40) (hdg : decode cc pc = .ok (.iastore, 1)) (kk : ∀ (H1 : Heap) (locs1 : List Loc), mW Γ.1 vwCl A L (rM Γ L (sA x 11 i.toNatClampNeg v)) H1 → va_S A s.heap H1 locs1 → W p l e R s m args below meth c H1 locs1 cells slots Q (F0 m (pc + 1) ls rest)) : W p l e R s m args below meth c H locs cells slots Q (F0 m pc ls (.int v :: .int i :: .ref (L (.inr (0, 11, 0))) :: rest)) := m_iast X hw hS (i := .inr (0, 11, 0)) rfl hin hdg (fun H1 locs1 h1 h2 => kk H1 locs1 (by have e := rU_11 Γ x i.toNatClampNeg v; show mW Γ.1 vwCl A L ([.inr (8, rF L x)], [rA Γ (sA x 11 i.toNatClampNeg v)]) H1; rw [← e]; exact h1) h2)
theorem r_get12 (X : mX Γ p m c cc nL s args RX10 A) (hw : mW Γ.1 vwCl A L (rM Γ L x) H) (hdg : decode cc pc = .ok (.getfield 42, 3)) (kk : W p l e R s m args below meth c H locs cells slots Q (F0 m (pc + 3) ls (.ref (L (.inr (0, 12, 0))) :: rest))) : W p l e R s m args below meth c H locs cells slots Q (F0 m pc ls (.ref (L (.inl 0)) :: rest)) := m_get X hw (i := .inl 0) (ci := 8) rfl rfl gX10 12 (by decide) fl_X10_42 rfl rfl hdg kk
theorem r_ald12 {i : Int32} (X : mX Γ p m c cc nL s args RX10 A) (hw : mW Γ.1 vwCl A L (rM Γ L x) H) (hin : vp_in i 640) (hdg : decode cc pc = .ok (.iaload, 1)) (kk : W p l e R s m args below meth c H locs cells slots Q (F0 m (pc + 1) ls (.int (x.2.1 12 i.toNatClampNeg) :: rest))) : W p l e R s m args below meth c H locs cells slots Q (F0 m pc ls (.int i :: .ref (L (.inr (0, 12, 0))) :: rest)) := m_iald X hw (i := .inr (0, 12, 0)) rfl hin hdg kk
theorem r_ast12 {i v : Int32} (X : mX Γ p m c cc nL s args RX10 A) (hw : mW Γ.1 vwCl A L (rM Γ L x) H) (hS : va_S A s.heap H locs) (hin : vp_in i 640) (hdg : decode cc pc = .ok (.iastore, 1)) (kk : ∀ (H1 : Heap) (locs1 : List Loc), mW Γ.1 vwCl A L (rM Γ L (sA x 12 i.toNatClampNeg v)) H1 → va_S A s.heap H1 locs1 → W p l e R s m args below meth c H1 locs1 cells slots Q (F0 m (pc + 1) ls rest)) : W p l e R s m args below meth c H locs cells slots Q (F0 m pc ls (.int v :: .int i :: .ref (L (.inr (0, 12, 0))) :: rest)) := m_iast X hw hS (i := .inr (0, 12, 0)) rfl hin hdg (fun H1 locs1 h1 h2 => kk H1 locs1 (by have e := rU_12 Γ x i.toNatClampNeg v; show mW Γ.1 vwCl A L ([.inr (8, rF L x)], [rA Γ (sA x 12 i.toNatClampNeg v)]) H1; rw [← e]; exact h1) h2)
theorem r_get13 (X : mX Γ p m c cc nL s args RX10 A) (hw : mW Γ.1 vwCl A L (rM Γ L x) H) (hdg : decode cc pc = .ok (.getfield 225, 3)) (kk : W p l e R s m args below meth c H locs cells slots Q (F0 m (pc + 3) ls (.int (x.1 13) :: rest))) : W p l e R s m args below meth c H locs cells slots Q (F0 m pc ls (.ref (L (.inl 0)) :: rest)) := m_get X hw (i := .inl 0) (ci := 8) rfl rfl gX10 13 (by decide) fl_X10_225 rfl rfl hdg kk
theorem r_put13 {v : Int32} (X : mX Γ p m c cc nL s args RX10 A) (hw : mW Γ.1 vwCl A L (rM Γ L x) H) (hS : va_S A s.heap H locs) (hdg : decode cc pc = .ok (.putfield 225, 3)) (kk : ∀ (H1 : Heap) (locs1 : List Loc), mW Γ.1 vwCl A L (rM Γ L (sS x 13 v)) H1 → va_S A s.heap H1 locs1 → W p l e R s m args below meth c H1 locs1 cells slots Q (F0 m (pc + 3) ls rest)) : W p l e R s m args below meth c H locs cells slots Q (F0 m pc ls (.int v :: .ref (L (.inl 0)) :: rest)) := m_put X hw hS (i := .inl 0) (ci := 8) (ty := .int) rfl rfl gX10 tyX10 tyX10_ok nmX10 13 (by decide) fl_X10_225 rfl rfl rfl rfl rfl (show 13 < 35 by decide) hdg kk
theorem r_get14 (X : mX Γ p m c cc nL s args RX10 A) (hw : mW Γ.1 vwCl A L (rM Γ L x) H) (hdg : decode cc pc = .ok (.getfield 45, 3)) (kk : W p l e R s m args below meth c H locs cells slots Q (F0 m (pc + 3) ls (.ref (L (.inr (0, 14, 0))) :: rest))) : W p l e R s m args below meth c H locs cells slots Q (F0 m pc ls (.ref (L (.inl 0)) :: rest)) := m_get X hw (i := .inl 0) (ci := 8) rfl rfl gX10 14 (by decide) fl_X10_45 rfl rfl hdg kk
theorem r_ald14 {i : Int32} (X : mX Γ p m c cc nL s args RX10 A) (hw : mW Γ.1 vwCl A L (rM Γ L x) H) (hin : vp_in i 16) (hdg : decode cc pc = .ok (.iaload, 1)) (kk : W p l e R s m args below meth c H locs cells slots Q (F0 m (pc + 1) ls (.int (x.2.1 14 i.toNatClampNeg) :: rest))) : W p l e R s m args below meth c H locs cells slots Q (F0 m pc ls (.int i :: .ref (L (.inr (0, 14, 0))) :: rest)) := m_iald X hw (i := .inr (0, 14, 0)) rfl hin hdg kk
theorem r_ast14 {i v : Int32} (X : mX Γ p m c cc nL s args RX10 A) (hw : mW Γ.1 vwCl A L (rM Γ L x) H) (hS : va_S A s.heap H locs) (hin : vp_in i 16) (hdg : decode cc pc = .ok (.iastore, 1)) (kk : ∀ (H1 : Heap) (locs1 : List Loc), mW Γ.1 vwCl A L (rM Γ L (sA x 14 i.toNatClampNeg v)) H1 → va_S A s.heap H1 locs1 → W p l e R s m args below meth c H1 locs1 cells slots Q (F0 m (pc + 1) ls rest)) : W p l e R s m args below meth c H locs cells slots Q (F0 m pc ls (.int v :: .int i :: .ref (L (.inr (0, 14, 0))) :: rest)) := m_iast X hw hS (i := .inr (0, 14, 0)) rfl hin hdg (fun H1 locs1 h1 h2 => kk H1 locs1 (by have e := rU_14 Γ x i.toNatClampNeg v; show mW Γ.1 vwCl A L ([.inr (8, rF L x)], [rA Γ (sA x 14 i.toNatClampNeg v)]) H1; rw [← e]; exact h1) h2)
theorem r_get15 (X : mX Γ p m c cc nL s args RX10 A) (hw : mW Γ.1 vwCl A L (rM Γ L x) H) (hdg : decode cc pc = .ok (.getfield 145, 3)) (kk : W p l e R s m args below meth c H locs cells slots Q (F0 m (pc + 3) ls (.int (x.1 15) :: rest))) : W p l e R s m args below meth c H locs cells slots Q (F0 m pc ls (.ref (L (.inl 0)) :: rest)) := m_get X hw (i := .inl 0) (ci := 8) rfl rfl gX10 15 (by decide) fl_X10_145 rfl rfl hdg kk
theorem r_put15 {v : Int32} (X : mX Γ p m c cc nL s args RX10 A) (hw : mW Γ.1 vwCl A L (rM Γ L x) H) (hS : va_S A s.heap H locs) (hdg : decode cc pc = .ok (.putfield 145, 3)) (kk : ∀ (H1 : Heap) (locs1 : List Loc), mW Γ.1 vwCl A L (rM Γ L (sS x 15 v)) H1 → va_S A s.heap H1 locs1 → W p l e R s m args below meth c H1 locs1 cells slots Q (F0 m (pc + 3) ls rest)) : W p l e R s m args below meth c H locs cells slots Q (F0 m pc ls (.int v :: .ref (L (.inl 0)) :: rest)) := m_put X hw hS (i := .inl 0) (ci := 8) (ty := .int) rfl rfl gX10 tyX10 tyX10_ok nmX10 15 (by decide) fl_X10_145 rfl rfl rfl rfl rfl (show 15 < 35 by decide) hdg kk
theorem r_get16 (X : mX Γ p m c cc nL s args RX10 A) (hw : mW Γ.1 vwCl A L (rM Γ L x) H) (hdg : decode cc pc = .ok (.getfield 212, 3)) (kk : W p l e R s m args below meth c H locs cells slots Q (F0 m (pc + 3) ls (.int (x.1 16) :: rest))) : W p l e R s m args below meth c H locs cells slots Q (F0 m pc ls (.ref (L (.inl 0)) :: rest)) := m_get X hw (i := .inl 0) (ci := 8) rfl rfl gX10 16 (by decide) fl_X10_212 rfl rfl hdg kk
theorem r_put16 {v : Int32} (X : mX Γ p m c cc nL s args RX10 A) (hw : mW Γ.1 vwCl A L (rM Γ L x) H) (hS : va_S A s.heap H locs) (hn : narrow .boolean (.int v) = .int v) (hf : fits .boolean (.int v) = true) (hdg : decode cc pc = .ok (.putfield 212, 3)) (kk : ∀ (H1 : Heap) (locs1 : List Loc), mW Γ.1 vwCl A L (rM Γ L (sS x 16 v)) H1 → va_S A s.heap H1 locs1 → W p l e R s m args below meth c H1 locs1 cells slots Q (F0 m (pc + 3) ls rest)) : W p l e R s m args below meth c H locs cells slots Q (F0 m pc ls (.int v :: .ref (L (.inl 0)) :: rest)) := m_put X hw hS (i := .inl 0) (ci := 8) (ty := .boolean) rfl rfl gX10 tyX10 tyX10_ok nmX10 16 (by decide) fl_X10_212 rfl rfl rfl hn hf (show 16 < 35 by decide) hdg kk
theorem r_get17 (X : mX Γ p m c cc nL s args RX10 A) (hw : mW Γ.1 vwCl A L (rM Γ L x) H) (hdg : decode cc pc = .ok (.getfield 48, 3)) (kk : W p l e R s m args below meth c H locs cells slots Q (F0 m (pc + 3) ls (.ref (L (.inr (0, 17, 0))) :: rest))) : W p l e R s m args below meth c H locs cells slots Q (F0 m pc ls (.ref (L (.inl 0)) :: rest)) := m_get X hw (i := .inl 0) (ci := 8) rfl rfl gX10 17 (by decide) fl_X10_48 rfl rfl hdg kk
theorem r_ald17 {i : Int32} (X : mX Γ p m c cc nL s args RX10 A) (hw : mW Γ.1 vwCl A L (rM Γ L x) H) (hin : vp_in i 8) (hdg : decode cc pc = .ok (.iaload, 1)) (kk : W p l e R s m args below meth c H locs cells slots Q (F0 m (pc + 1) ls (.int (x.2.1 17 i.toNatClampNeg) :: rest))) : W p l e R s m args below meth c H locs cells slots Q (F0 m pc ls (.int i :: .ref (L (.inr (0, 17, 0))) :: rest)) := m_iald X hw (i := .inr (0, 17, 0)) rfl hin hdg kk
theorem r_ast17 {i v : Int32} (X : mX Γ p m c cc nL s args RX10 A) (hw : mW Γ.1 vwCl A L (rM Γ L x) H) (hS : va_S A s.heap H locs) (hin : vp_in i 8) (hdg : decode cc pc = .ok (.iastore, 1)) (kk : ∀ (H1 : Heap) (locs1 : List Loc), mW Γ.1 vwCl A L (rM Γ L (sA x 17 i.toNatClampNeg v)) H1 → va_S A s.heap H1 locs1 → W p l e R s m args below meth c H1 locs1 cells slots Q (F0 m (pc + 1) ls rest)) : W p l e R s m args below meth c H locs cells slots Q (F0 m pc ls (.int v :: .int i :: .ref (L (.inr (0, 17, 0))) :: rest)) := m_iast X hw hS (i := .inr (0, 17, 0)) rfl hin hdg (fun H1 locs1 h1 h2 => kk H1 locs1 (by have e := rU_17 Γ x i.toNatClampNeg v; show mW Γ.1 vwCl A L ([.inr (8, rF L x)], [rA Γ (sA x 17 i.toNatClampNeg v)]) H1; rw [← e]; exact h1) h2)
theorem r_get18 (X : mX Γ p m c cc nL s args RX10 A) (hw : mW Γ.1 vwCl A L (rM Γ L x) H) (hdg : decode cc pc = .ok (.getfield 51, 3)) (kk : W p l e R s m args below meth c H locs cells slots Q (F0 m (pc + 3) ls (.ref (L (.inr (0, 18, 0))) :: rest))) : W p l e R s m args below meth c H locs cells slots Q (F0 m pc ls (.ref (L (.inl 0)) :: rest)) := m_get X hw (i := .inl 0) (ci := 8) rfl rfl gX10 18 (by decide) fl_X10_51 rfl rfl hdg kk
theorem r_ald18 {i : Int32} (X : mX Γ p m c cc nL s args RX10 A) (hw : mW Γ.1 vwCl A L (rM Γ L x) H) (hin : vp_in i 128) (hdg : decode cc pc = .ok (.laload, 1)) (kk : W p l e R s m args below meth c H locs cells slots Q (F0 m (pc + 1) ls (.long (x.2.2 18 i.toNatClampNeg) :: rest))) : W p l e R s m args below meth c H locs cells slots Q (F0 m pc ls (.int i :: .ref (L (.inr (0, 18, 0))) :: rest)) := m_lald X hw (i := .inr (0, 18, 0)) rfl hin hdg kk
theorem r_ast18 {i : Int32} {v : Int64} (X : mX Γ p m c cc nL s args RX10 A) (hw : mW Γ.1 vwCl A L (rM Γ L x) H) (hS : va_S A s.heap H locs) (hin : vp_in i 128) (hdg : decode cc pc = .ok (.lastore, 1)) (kk : ∀ (H1 : Heap) (locs1 : List Loc), mW Γ.1 vwCl A L (rM Γ L (sJ x 18 i.toNatClampNeg v)) H1 → va_S A s.heap H1 locs1 → W p l e R s m args below meth c H1 locs1 cells slots Q (F0 m (pc + 1) ls rest)) : W p l e R s m args below meth c H locs cells slots Q (F0 m pc ls (.long v :: .int i :: .ref (L (.inr (0, 18, 0))) :: rest)) := m_last X hw hS (i := .inr (0, 18, 0)) rfl hin hdg (fun H1 locs1 h1 h2 => kk H1 locs1 (by have e := rU_18 Γ x i.toNatClampNeg v; show mW Γ.1 vwCl A L ([.inr (8, rF L x)], [rA Γ (sJ x 18 i.toNatClampNeg v)]) H1; rw [← e]; exact h1) h2)
theorem r_get19 (X : mX Γ p m c cc nL s args RX10 A) (hw : mW Γ.1 vwCl A L (rM Γ L x) H) (hdg : decode cc pc = .ok (.getfield 54, 3)) (kk : W p l e R s m args below meth c H locs cells slots Q (F0 m (pc + 3) ls (.ref (L (.inr (0, 19, 0))) :: rest))) : W p l e R s m args below meth c H locs cells slots Q (F0 m pc ls (.ref (L (.inl 0)) :: rest)) := m_get X hw (i := .inl 0) (ci := 8) rfl rfl gX10 19 (by decide) fl_X10_54 rfl rfl hdg kk
theorem r_ald19 {i : Int32} (X : mX Γ p m c cc nL s args RX10 A) (hw : mW Γ.1 vwCl A L (rM Γ L x) H) (hin : vp_in i 8) (hdg : decode cc pc = .ok (.iaload, 1)) (kk : W p l e R s m args below meth c H locs cells slots Q (F0 m (pc + 1) ls (.int (x.2.1 19 i.toNatClampNeg) :: rest))) : W p l e R s m args below meth c H locs cells slots Q (F0 m pc ls (.int i :: .ref (L (.inr (0, 19, 0))) :: rest)) := m_iald X hw (i := .inr (0, 19, 0)) rfl hin hdg kk
theorem r_ast19 {i v : Int32} (X : mX Γ p m c cc nL s args RX10 A) (hw : mW Γ.1 vwCl A L (rM Γ L x) H) (hS : va_S A s.heap H locs) (hin : vp_in i 8) (hdg : decode cc pc = .ok (.iastore, 1)) (kk : ∀ (H1 : Heap) (locs1 : List Loc), mW Γ.1 vwCl A L (rM Γ L (sA x 19 i.toNatClampNeg v)) H1 → va_S A s.heap H1 locs1 → W p l e R s m args below meth c H1 locs1 cells slots Q (F0 m (pc + 1) ls rest)) : W p l e R s m args below meth c H locs cells slots Q (F0 m pc ls (.int v :: .int i :: .ref (L (.inr (0, 19, 0))) :: rest)) := m_iast X hw hS (i := .inr (0, 19, 0)) rfl hin hdg (fun H1 locs1 h1 h2 => kk H1 locs1 (by have e := rU_19 Γ x i.toNatClampNeg v; show mW Γ.1 vwCl A L ([.inr (8, rF L x)], [rA Γ (sA x 19 i.toNatClampNeg v)]) H1; rw [← e]; exact h1) h2)
theorem r_get20 (X : mX Γ p m c cc nL s args RX10 A) (hw : mW Γ.1 vwCl A L (rM Γ L x) H) (hdg : decode cc pc = .ok (.getfield 57, 3)) (kk : W p l e R s m args below meth c H locs cells slots Q (F0 m (pc + 3) ls (.ref (L (.inr (0, 20, 0))) :: rest))) : W p l e R s m args below meth c H locs cells slots Q (F0 m pc ls (.ref (L (.inl 0)) :: rest)) := m_get X hw (i := .inl 0) (ci := 8) rfl rfl gX10 20 (by decide) fl_X10_57 rfl rfl hdg kk
theorem r_ald20 {i : Int32} (X : mX Γ p m c cc nL s args RX10 A) (hw : mW Γ.1 vwCl A L (rM Γ L x) H) (hin : vp_in i 8) (hdg : decode cc pc = .ok (.iaload, 1)) (kk : W p l e R s m args below meth c H locs cells slots Q (F0 m (pc + 1) ls (.int (x.2.1 20 i.toNatClampNeg) :: rest))) : W p l e R s m args below meth c H locs cells slots Q (F0 m pc ls (.int i :: .ref (L (.inr (0, 20, 0))) :: rest)) := m_iald X hw (i := .inr (0, 20, 0)) rfl hin hdg kk
theorem r_ast20 {i v : Int32} (X : mX Γ p m c cc nL s args RX10 A) (hw : mW Γ.1 vwCl A L (rM Γ L x) H) (hS : va_S A s.heap H locs) (hin : vp_in i 8) (hdg : decode cc pc = .ok (.iastore, 1)) (kk : ∀ (H1 : Heap) (locs1 : List Loc), mW Γ.1 vwCl A L (rM Γ L (sA x 20 i.toNatClampNeg v)) H1 → va_S A s.heap H1 locs1 → W p l e R s m args below meth c H1 locs1 cells slots Q (F0 m (pc + 1) ls rest)) : W p l e R s m args below meth c H locs cells slots Q (F0 m pc ls (.int v :: .int i :: .ref (L (.inr (0, 20, 0))) :: rest)) := m_iast X hw hS (i := .inr (0, 20, 0)) rfl hin hdg (fun H1 locs1 h1 h2 => kk H1 locs1 (by have e := rU_20 Γ x i.toNatClampNeg v; show mW Γ.1 vwCl A L ([.inr (8, rF L x)], [rA Γ (sA x 20 i.toNatClampNeg v)]) H1; rw [← e]; exact h1) h2)
theorem r_get21 (X : mX Γ p m c cc nL s args RX10 A) (hw : mW Γ.1 vwCl A L (rM Γ L x) H) (hdg : decode cc pc = .ok (.getfield 60, 3)) (kk : W p l e R s m args below meth c H locs cells slots Q (F0 m (pc + 3) ls (.ref (L (.inr (0, 21, 0))) :: rest))) : W p l e R s m args below meth c H locs cells slots Q (F0 m pc ls (.ref (L (.inl 0)) :: rest)) := m_get X hw (i := .inl 0) (ci := 8) rfl rfl gX10 21 (by decide) fl_X10_60 rfl rfl hdg kk
theorem r_ald21 {i : Int32} (X : mX Γ p m c cc nL s args RX10 A) (hw : mW Γ.1 vwCl A L (rM Γ L x) H) (hin : vp_in i 8) (hdg : decode cc pc = .ok (.iaload, 1)) (kk : W p l e R s m args below meth c H locs cells slots Q (F0 m (pc + 1) ls (.int (x.2.1 21 i.toNatClampNeg) :: rest))) : W p l e R s m args below meth c H locs cells slots Q (F0 m pc ls (.int i :: .ref (L (.inr (0, 21, 0))) :: rest)) := m_iald X hw (i := .inr (0, 21, 0)) rfl hin hdg kk
theorem r_ast21 {i v : Int32} (X : mX Γ p m c cc nL s args RX10 A) (hw : mW Γ.1 vwCl A L (rM Γ L x) H) (hS : va_S A s.heap H locs) (hin : vp_in i 8) (hdg : decode cc pc = .ok (.iastore, 1)) (kk : ∀ (H1 : Heap) (locs1 : List Loc), mW Γ.1 vwCl A L (rM Γ L (sA x 21 i.toNatClampNeg v)) H1 → va_S A s.heap H1 locs1 → W p l e R s m args below meth c H1 locs1 cells slots Q (F0 m (pc + 1) ls rest)) : W p l e R s m args below meth c H locs cells slots Q (F0 m pc ls (.int v :: .int i :: .ref (L (.inr (0, 21, 0))) :: rest)) := m_iast X hw hS (i := .inr (0, 21, 0)) rfl hin hdg (fun H1 locs1 h1 h2 => kk H1 locs1 (by have e := rU_21 Γ x i.toNatClampNeg v; show mW Γ.1 vwCl A L ([.inr (8, rF L x)], [rA Γ (sA x 21 i.toNatClampNeg v)]) H1; rw [← e]; exact h1) h2)
theorem r_get22 (X : mX Γ p m c cc nL s args RX10 A) (hw : mW Γ.1 vwCl A L (rM Γ L x) H) (hdg : decode cc pc = .ok (.getfield 235, 3)) (kk : W p l e R s m args below meth c H locs cells slots Q (F0 m (pc + 3) ls (.int (x.1 22) :: rest))) : W p l e R s m args below meth c H locs cells slots Q (F0 m pc ls (.ref (L (.inl 0)) :: rest)) := m_get X hw (i := .inl 0) (ci := 8) rfl rfl gX10 22 (by decide) fl_X10_235 rfl rfl hdg kk
theorem r_put22 {v : Int32} (X : mX Γ p m c cc nL s args RX10 A) (hw : mW Γ.1 vwCl A L (rM Γ L x) H) (hS : va_S A s.heap H locs) (hdg : decode cc pc = .ok (.putfield 235, 3)) (kk : ∀ (H1 : Heap) (locs1 : List Loc), mW Γ.1 vwCl A L (rM Γ L (sS x 22 v)) H1 → va_S A s.heap H1 locs1 → W p l e R s m args below meth c H1 locs1 cells slots Q (F0 m (pc + 3) ls rest)) : W p l e R s m args below meth c H locs cells slots Q (F0 m pc ls (.int v :: .ref (L (.inl 0)) :: rest)) := m_put X hw hS (i := .inl 0) (ci := 8) (ty := .int) rfl rfl gX10 tyX10 tyX10_ok nmX10 22 (by decide) fl_X10_235 rfl rfl rfl rfl rfl (show 22 < 35 by decide) hdg kk
theorem r_get23 (X : mX Γ p m c cc nL s args RX10 A) (hw : mW Γ.1 vwCl A L (rM Γ L x) H) (hdg : decode cc pc = .ok (.getfield 248, 3)) (kk : W p l e R s m args below meth c H locs cells slots Q (F0 m (pc + 3) ls (.int (x.1 23) :: rest))) : W p l e R s m args below meth c H locs cells slots Q (F0 m pc ls (.ref (L (.inl 0)) :: rest)) := m_get X hw (i := .inl 0) (ci := 8) rfl rfl gX10 23 (by decide) fl_X10_248 rfl rfl hdg kk
theorem r_put23 {v : Int32} (X : mX Γ p m c cc nL s args RX10 A) (hw : mW Γ.1 vwCl A L (rM Γ L x) H) (hS : va_S A s.heap H locs) (hdg : decode cc pc = .ok (.putfield 248, 3)) (kk : ∀ (H1 : Heap) (locs1 : List Loc), mW Γ.1 vwCl A L (rM Γ L (sS x 23 v)) H1 → va_S A s.heap H1 locs1 → W p l e R s m args below meth c H1 locs1 cells slots Q (F0 m (pc + 3) ls rest)) : W p l e R s m args below meth c H locs cells slots Q (F0 m pc ls (.int v :: .ref (L (.inl 0)) :: rest)) := m_put X hw hS (i := .inl 0) (ci := 8) (ty := .int) rfl rfl gX10 tyX10 tyX10_ok nmX10 23 (by decide) fl_X10_248 rfl rfl rfl rfl rfl (show 23 < 35 by decide) hdg kk
theorem r_get24 (X : mX Γ p m c cc nL s args RX10 A) (hw : mW Γ.1 vwCl A L (rM Γ L x) H) (hdg : decode cc pc = .ok (.getfield 63, 3)) (kk : W p l e R s m args below meth c H locs cells slots Q (F0 m (pc + 3) ls (.ref (L (.inr (0, 24, 0))) :: rest))) : W p l e R s m args below meth c H locs cells slots Q (F0 m pc ls (.ref (L (.inl 0)) :: rest)) := m_get X hw (i := .inl 0) (ci := 8) rfl rfl gX10 24 (by decide) fl_X10_63 rfl rfl hdg kk
theorem r_ald24 {i : Int32} (X : mX Γ p m c cc nL s args RX10 A) (hw : mW Γ.1 vwCl A L (rM Γ L x) H) (hin : vp_in i 20) (hdg : decode cc pc = .ok (.iaload, 1)) (kk : W p l e R s m args below meth c H locs cells slots Q (F0 m (pc + 1) ls (.int (x.2.1 24 i.toNatClampNeg) :: rest))) : W p l e R s m args below meth c H locs cells slots Q (F0 m pc ls (.int i :: .ref (L (.inr (0, 24, 0))) :: rest)) := m_iald X hw (i := .inr (0, 24, 0)) rfl hin hdg kk
theorem r_ast24 {i v : Int32} (X : mX Γ p m c cc nL s args RX10 A) (hw : mW Γ.1 vwCl A L (rM Γ L x) H) (hS : va_S A s.heap H locs) (hin : vp_in i 20) (hdg : decode cc pc = .ok (.iastore, 1)) (kk : ∀ (H1 : Heap) (locs1 : List Loc), mW Γ.1 vwCl A L (rM Γ L (sA x 24 i.toNatClampNeg v)) H1 → va_S A s.heap H1 locs1 → W p l e R s m args below meth c H1 locs1 cells slots Q (F0 m (pc + 1) ls rest)) : W p l e R s m args below meth c H locs cells slots Q (F0 m pc ls (.int v :: .int i :: .ref (L (.inr (0, 24, 0))) :: rest)) := m_iast X hw hS (i := .inr (0, 24, 0)) rfl hin hdg (fun H1 locs1 h1 h2 => kk H1 locs1 (by have e := rU_24 Γ x i.toNatClampNeg v; show mW Γ.1 vwCl A L ([.inr (8, rF L x)], [rA Γ (sA x 24 i.toNatClampNeg v)]) H1; rw [← e]; exact h1) h2)
theorem r_get25 (X : mX Γ p m c cc nL s args RX10 A) (hw : mW Γ.1 vwCl A L (rM Γ L x) H) (hdg : decode cc pc = .ok (.getfield 66, 3)) (kk : W p l e R s m args below meth c H locs cells slots Q (F0 m (pc + 3) ls (.ref (L (.inr (0, 25, 0))) :: rest))) : W p l e R s m args below meth c H locs cells slots Q (F0 m pc ls (.ref (L (.inl 0)) :: rest)) := m_get X hw (i := .inl 0) (ci := 8) rfl rfl gX10 25 (by decide) fl_X10_66 rfl rfl hdg kk
theorem r_ald25 {i : Int32} (X : mX Γ p m c cc nL s args RX10 A) (hw : mW Γ.1 vwCl A L (rM Γ L x) H) (hin : vp_in i 20) (hdg : decode cc pc = .ok (.iaload, 1)) (kk : W p l e R s m args below meth c H locs cells slots Q (F0 m (pc + 1) ls (.int (x.2.1 25 i.toNatClampNeg) :: rest))) : W p l e R s m args below meth c H locs cells slots Q (F0 m pc ls (.int i :: .ref (L (.inr (0, 25, 0))) :: rest)) := m_iald X hw (i := .inr (0, 25, 0)) rfl hin hdg kk
theorem r_ast25 {i v : Int32} (X : mX Γ p m c cc nL s args RX10 A) (hw : mW Γ.1 vwCl A L (rM Γ L x) H) (hS : va_S A s.heap H locs) (hin : vp_in i 20) (hdg : decode cc pc = .ok (.iastore, 1)) (kk : ∀ (H1 : Heap) (locs1 : List Loc), mW Γ.1 vwCl A L (rM Γ L (sA x 25 i.toNatClampNeg v)) H1 → va_S A s.heap H1 locs1 → W p l e R s m args below meth c H1 locs1 cells slots Q (F0 m (pc + 1) ls rest)) : W p l e R s m args below meth c H locs cells slots Q (F0 m pc ls (.int v :: .int i :: .ref (L (.inr (0, 25, 0))) :: rest)) := m_iast X hw hS (i := .inr (0, 25, 0)) rfl hin hdg (fun H1 locs1 h1 h2 => kk H1 locs1 (by have e := rU_25 Γ x i.toNatClampNeg v; show mW Γ.1 vwCl A L ([.inr (8, rF L x)], [rA Γ (sA x 25 i.toNatClampNeg v)]) H1; rw [← e]; exact h1) h2)
theorem r_get26 (X : mX Γ p m c cc nL s args RX10 A) (hw : mW Γ.1 vwCl A L (rM Γ L x) H) (hdg : decode cc pc = .ok (.getfield 69, 3)) (kk : W p l e R s m args below meth c H locs cells slots Q (F0 m (pc + 3) ls (.ref (L (.inr (0, 26, 0))) :: rest))) : W p l e R s m args below meth c H locs cells slots Q (F0 m pc ls (.ref (L (.inl 0)) :: rest)) := m_get X hw (i := .inl 0) (ci := 8) rfl rfl gX10 26 (by decide) fl_X10_69 rfl rfl hdg kk
theorem r_ald26 {i : Int32} (X : mX Γ p m c cc nL s args RX10 A) (hw : mW Γ.1 vwCl A L (rM Γ L x) H) (hin : vp_in i 20) (hdg : decode cc pc = .ok (.iaload, 1)) (kk : W p l e R s m args below meth c H locs cells slots Q (F0 m (pc + 1) ls (.int (x.2.1 26 i.toNatClampNeg) :: rest))) : W p l e R s m args below meth c H locs cells slots Q (F0 m pc ls (.int i :: .ref (L (.inr (0, 26, 0))) :: rest)) := m_iald X hw (i := .inr (0, 26, 0)) rfl hin hdg kk
theorem r_ast26 {i v : Int32} (X : mX Γ p m c cc nL s args RX10 A) (hw : mW Γ.1 vwCl A L (rM Γ L x) H) (hS : va_S A s.heap H locs) (hin : vp_in i 20) (hdg : decode cc pc = .ok (.iastore, 1)) (kk : ∀ (H1 : Heap) (locs1 : List Loc), mW Γ.1 vwCl A L (rM Γ L (sA x 26 i.toNatClampNeg v)) H1 → va_S A s.heap H1 locs1 → W p l e R s m args below meth c H1 locs1 cells slots Q (F0 m (pc + 1) ls rest)) : W p l e R s m args below meth c H locs cells slots Q (F0 m pc ls (.int v :: .int i :: .ref (L (.inr (0, 26, 0))) :: rest)) := m_iast X hw hS (i := .inr (0, 26, 0)) rfl hin hdg (fun H1 locs1 h1 h2 => kk H1 locs1 (by have e := rU_26 Γ x i.toNatClampNeg v; show mW Γ.1 vwCl A L ([.inr (8, rF L x)], [rA Γ (sA x 26 i.toNatClampNeg v)]) H1; rw [← e]; exact h1) h2)
theorem r_get27 (X : mX Γ p m c cc nL s args RX10 A) (hw : mW Γ.1 vwCl A L (rM Γ L x) H) (hdg : decode cc pc = .ok (.getfield 72, 3)) (kk : W p l e R s m args below meth c H locs cells slots Q (F0 m (pc + 3) ls (.ref (L (.inr (0, 27, 0))) :: rest))) : W p l e R s m args below meth c H locs cells slots Q (F0 m pc ls (.ref (L (.inl 0)) :: rest)) := m_get X hw (i := .inl 0) (ci := 8) rfl rfl gX10 27 (by decide) fl_X10_72 rfl rfl hdg kk
theorem r_ald27 {i : Int32} (X : mX Γ p m c cc nL s args RX10 A) (hw : mW Γ.1 vwCl A L (rM Γ L x) H) (hin : vp_in i 600) (hdg : decode cc pc = .ok (.laload, 1)) (kk : W p l e R s m args below meth c H locs cells slots Q (F0 m (pc + 1) ls (.long (x.2.2 27 i.toNatClampNeg) :: rest))) : W p l e R s m args below meth c H locs cells slots Q (F0 m pc ls (.int i :: .ref (L (.inr (0, 27, 0))) :: rest)) := m_lald X hw (i := .inr (0, 27, 0)) rfl hin hdg kk
theorem r_ast27 {i : Int32} {v : Int64} (X : mX Γ p m c cc nL s args RX10 A) (hw : mW Γ.1 vwCl A L (rM Γ L x) H) (hS : va_S A s.heap H locs) (hin : vp_in i 600) (hdg : decode cc pc = .ok (.lastore, 1)) (kk : ∀ (H1 : Heap) (locs1 : List Loc), mW Γ.1 vwCl A L (rM Γ L (sJ x 27 i.toNatClampNeg v)) H1 → va_S A s.heap H1 locs1 → W p l e R s m args below meth c H1 locs1 cells slots Q (F0 m (pc + 1) ls rest)) : W p l e R s m args below meth c H locs cells slots Q (F0 m pc ls (.long v :: .int i :: .ref (L (.inr (0, 27, 0))) :: rest)) := m_last X hw hS (i := .inr (0, 27, 0)) rfl hin hdg (fun H1 locs1 h1 h2 => kk H1 locs1 (by have e := rU_27 Γ x i.toNatClampNeg v; show mW Γ.1 vwCl A L ([.inr (8, rF L x)], [rA Γ (sJ x 27 i.toNatClampNeg v)]) H1; rw [← e]; exact h1) h2)
theorem r_get28 (X : mX Γ p m c cc nL s args RX10 A) (hw : mW Γ.1 vwCl A L (rM Γ L x) H) (hdg : decode cc pc = .ok (.getfield 263, 3)) (kk : W p l e R s m args below meth c H locs cells slots Q (F0 m (pc + 3) ls (.int (x.1 28) :: rest))) : W p l e R s m args below meth c H locs cells slots Q (F0 m pc ls (.ref (L (.inl 0)) :: rest)) := m_get X hw (i := .inl 0) (ci := 8) rfl rfl gX10 28 (by decide) fl_X10_263 rfl rfl hdg kk
theorem r_put28 {v : Int32} (X : mX Γ p m c cc nL s args RX10 A) (hw : mW Γ.1 vwCl A L (rM Γ L x) H) (hS : va_S A s.heap H locs) (hdg : decode cc pc = .ok (.putfield 263, 3)) (kk : ∀ (H1 : Heap) (locs1 : List Loc), mW Γ.1 vwCl A L (rM Γ L (sS x 28 v)) H1 → va_S A s.heap H1 locs1 → W p l e R s m args below meth c H1 locs1 cells slots Q (F0 m (pc + 3) ls rest)) : W p l e R s m args below meth c H locs cells slots Q (F0 m pc ls (.int v :: .ref (L (.inl 0)) :: rest)) := m_put X hw hS (i := .inl 0) (ci := 8) (ty := .int) rfl rfl gX10 tyX10 tyX10_ok nmX10 28 (by decide) fl_X10_263 rfl rfl rfl rfl rfl (show 28 < 35 by decide) hdg kk
theorem r_get29 (X : mX Γ p m c cc nL s args RX10 A) (hw : mW Γ.1 vwCl A L (rM Γ L x) H) (hdg : decode cc pc = .ok (.getfield 251, 3)) (kk : W p l e R s m args below meth c H locs cells slots Q (F0 m (pc + 3) ls (.int (x.1 29) :: rest))) : W p l e R s m args below meth c H locs cells slots Q (F0 m pc ls (.ref (L (.inl 0)) :: rest)) := m_get X hw (i := .inl 0) (ci := 8) rfl rfl gX10 29 (by decide) fl_X10_251 rfl rfl hdg kk
theorem r_put29 {v : Int32} (X : mX Γ p m c cc nL s args RX10 A) (hw : mW Γ.1 vwCl A L (rM Γ L x) H) (hS : va_S A s.heap H locs) (hdg : decode cc pc = .ok (.putfield 251, 3)) (kk : ∀ (H1 : Heap) (locs1 : List Loc), mW Γ.1 vwCl A L (rM Γ L (sS x 29 v)) H1 → va_S A s.heap H1 locs1 → W p l e R s m args below meth c H1 locs1 cells slots Q (F0 m (pc + 3) ls rest)) : W p l e R s m args below meth c H locs cells slots Q (F0 m pc ls (.int v :: .ref (L (.inl 0)) :: rest)) := m_put X hw hS (i := .inl 0) (ci := 8) (ty := .int) rfl rfl gX10 tyX10 tyX10_ok nmX10 29 (by decide) fl_X10_251 rfl rfl rfl rfl rfl (show 29 < 35 by decide) hdg kk
theorem r_get30 (X : mX Γ p m c cc nL s args RX10 A) (hw : mW Γ.1 vwCl A L (rM Γ L x) H) (hdg : decode cc pc = .ok (.getfield 254, 3)) (kk : W p l e R s m args below meth c H locs cells slots Q (F0 m (pc + 3) ls (.int (x.1 30) :: rest))) : W p l e R s m args below meth c H locs cells slots Q (F0 m pc ls (.ref (L (.inl 0)) :: rest)) := m_get X hw (i := .inl 0) (ci := 8) rfl rfl gX10 30 (by decide) fl_X10_254 rfl rfl hdg kk
theorem r_put30 {v : Int32} (X : mX Γ p m c cc nL s args RX10 A) (hw : mW Γ.1 vwCl A L (rM Γ L x) H) (hS : va_S A s.heap H locs) (hdg : decode cc pc = .ok (.putfield 254, 3)) (kk : ∀ (H1 : Heap) (locs1 : List Loc), mW Γ.1 vwCl A L (rM Γ L (sS x 30 v)) H1 → va_S A s.heap H1 locs1 → W p l e R s m args below meth c H1 locs1 cells slots Q (F0 m (pc + 3) ls rest)) : W p l e R s m args below meth c H locs cells slots Q (F0 m pc ls (.int v :: .ref (L (.inl 0)) :: rest)) := m_put X hw hS (i := .inl 0) (ci := 8) (ty := .int) rfl rfl gX10 tyX10 tyX10_ok nmX10 30 (by decide) fl_X10_254 rfl rfl rfl rfl rfl (show 30 < 35 by decide) hdg kk
theorem r_get31 (X : mX Γ p m c cc nL s args RX10 A) (hw : mW Γ.1 vwCl A L (rM Γ L x) H) (hdg : decode cc pc = .ok (.getfield 257, 3)) (kk : W p l e R s m args below meth c H locs cells slots Q (F0 m (pc + 3) ls (.int (x.1 31) :: rest))) : W p l e R s m args below meth c H locs cells slots Q (F0 m pc ls (.ref (L (.inl 0)) :: rest)) := m_get X hw (i := .inl 0) (ci := 8) rfl rfl gX10 31 (by decide) fl_X10_257 rfl rfl hdg kk
theorem r_put31 {v : Int32} (X : mX Γ p m c cc nL s args RX10 A) (hw : mW Γ.1 vwCl A L (rM Γ L x) H) (hS : va_S A s.heap H locs) (hdg : decode cc pc = .ok (.putfield 257, 3)) (kk : ∀ (H1 : Heap) (locs1 : List Loc), mW Γ.1 vwCl A L (rM Γ L (sS x 31 v)) H1 → va_S A s.heap H1 locs1 → W p l e R s m args below meth c H1 locs1 cells slots Q (F0 m (pc + 3) ls rest)) : W p l e R s m args below meth c H locs cells slots Q (F0 m pc ls (.int v :: .ref (L (.inl 0)) :: rest)) := m_put X hw hS (i := .inl 0) (ci := 8) (ty := .int) rfl rfl gX10 tyX10 tyX10_ok nmX10 31 (by decide) fl_X10_257 rfl rfl rfl rfl rfl (show 31 < 35 by decide) hdg kk
theorem r_get32 (X : mX Γ p m c cc nL s args RX10 A) (hw : mW Γ.1 vwCl A L (rM Γ L x) H) (hdg : decode cc pc = .ok (.getfield 260, 3)) (kk : W p l e R s m args below meth c H locs cells slots Q (F0 m (pc + 3) ls (.int (x.1 32) :: rest))) : W p l e R s m args below meth c H locs cells slots Q (F0 m pc ls (.ref (L (.inl 0)) :: rest)) := m_get X hw (i := .inl 0) (ci := 8) rfl rfl gX10 32 (by decide) fl_X10_260 rfl rfl hdg kk
theorem r_put32 {v : Int32} (X : mX Γ p m c cc nL s args RX10 A) (hw : mW Γ.1 vwCl A L (rM Γ L x) H) (hS : va_S A s.heap H locs) (hdg : decode cc pc = .ok (.putfield 260, 3)) (kk : ∀ (H1 : Heap) (locs1 : List Loc), mW Γ.1 vwCl A L (rM Γ L (sS x 32 v)) H1 → va_S A s.heap H1 locs1 → W p l e R s m args below meth c H1 locs1 cells slots Q (F0 m (pc + 3) ls rest)) : W p l e R s m args below meth c H locs cells slots Q (F0 m pc ls (.int v :: .ref (L (.inl 0)) :: rest)) := m_put X hw hS (i := .inl 0) (ci := 8) (ty := .int) rfl rfl gX10 tyX10 tyX10_ok nmX10 32 (by decide) fl_X10_260 rfl rfl rfl rfl rfl (show 32 < 35 by decide) hdg kk
theorem r_get33 (X : mX Γ p m c cc nL s args RX10 A) (hw : mW Γ.1 vwCl A L (rM Γ L x) H) (hdg : decode cc pc = .ok (.getfield 245, 3)) (kk : W p l e R s m args below meth c H locs cells slots Q (F0 m (pc + 3) ls (.int (x.1 33) :: rest))) : W p l e R s m args below meth c H locs cells slots Q (F0 m pc ls (.ref (L (.inl 0)) :: rest)) := m_get X hw (i := .inl 0) (ci := 8) rfl rfl gX10 33 (by decide) fl_X10_245 rfl rfl hdg kk
theorem r_put33 {v : Int32} (X : mX Γ p m c cc nL s args RX10 A) (hw : mW Γ.1 vwCl A L (rM Γ L x) H) (hS : va_S A s.heap H locs) (hn : narrow .boolean (.int v) = .int v) (hf : fits .boolean (.int v) = true) (hdg : decode cc pc = .ok (.putfield 245, 3)) (kk : ∀ (H1 : Heap) (locs1 : List Loc), mW Γ.1 vwCl A L (rM Γ L (sS x 33 v)) H1 → va_S A s.heap H1 locs1 → W p l e R s m args below meth c H1 locs1 cells slots Q (F0 m (pc + 3) ls rest)) : W p l e R s m args below meth c H locs cells slots Q (F0 m pc ls (.int v :: .ref (L (.inl 0)) :: rest)) := m_put X hw hS (i := .inl 0) (ci := 8) (ty := .boolean) rfl rfl gX10 tyX10 tyX10_ok nmX10 33 (by decide) fl_X10_245 rfl rfl rfl hn hf (show 33 < 35 by decide) hdg kk
theorem r_get34 (X : mX Γ p m c cc nL s args RX10 A) (hw : mW Γ.1 vwCl A L (rM Γ L x) H) (hdg : decode cc pc = .ok (.getfield 273, 3)) (kk : W p l e R s m args below meth c H locs cells slots Q (F0 m (pc + 3) ls (.int (x.1 34) :: rest))) : W p l e R s m args below meth c H locs cells slots Q (F0 m pc ls (.ref (L (.inl 0)) :: rest)) := m_get X hw (i := .inl 0) (ci := 8) rfl rfl gX10 34 (by decide) fl_X10_273 rfl rfl hdg kk
theorem r_put34 {v : Int32} (X : mX Γ p m c cc nL s args RX10 A) (hw : mW Γ.1 vwCl A L (rM Γ L x) H) (hS : va_S A s.heap H locs) (hdg : decode cc pc = .ok (.putfield 273, 3)) (kk : ∀ (H1 : Heap) (locs1 : List Loc), mW Γ.1 vwCl A L (rM Γ L (sS x 34 v)) H1 → va_S A s.heap H1 locs1 → W p l e R s m args below meth c H1 locs1 cells slots Q (F0 m (pc + 3) ls rest)) : W p l e R s m args below meth c H locs cells slots Q (F0 m pc ls (.int v :: .ref (L (.inl 0)) :: rest)) := m_put X hw hS (i := .inl 0) (ci := 8) (ty := .int) rfl rfl gX10 tyX10 tyX10_ok nmX10 34 (by decide) fl_X10_273 rfl rfl rfl rfl rfl (show 34 < 35 by decide) hdg kk
end RR
end
section
/-! HELPS: small numbers, compares of longs, arrays by Nat places -/
theorem nadd {x y : Int32} {a b : Nat} (h : x = nI a) (k : y = nI b) : x + y = nI (a + b) := by rw [h, k, nI_add]
theorem nmul {x y : Int32} {a b : Nat} (h : x = nI a) (k : y = nI b) : x * y = nI (a * b) := by rw [h, k, pk_mul]
theorem nsub {x y : Int32} {a b : Nat} (hb : b ≤ a) (h : x = nI a) (k : y = nI b) : x - y = nI (a - b) := by rw [h, k, pk_sub hb]
theorem nltT {x y : Int32} {a b : Nat} (h : x = nI a) (k : y = nI b) (ha : a < 2 ^ 31) (hb : b < 2 ^ 31) (c : x < y) : a < b := by rw [h, k] at c; exact (nI_ltI ha hb).mp c
theorem nltF {x y : Int32} {a b : Nat} (h : x = nI a) (k : y = nI b) (ha : a < 2 ^ 31) (hb : b < 2 ^ 31) (c : ¬ x < y) : ¬ a < b := by rw [h, k] at c; exact fun z => c ((nI_ltI ha hb).mpr z)
theorem ngeT {x y : Int32} {a b : Nat} (h : x = nI a) (k : y = nI b) (ha : a < 2 ^ 31) (hb : b < 2 ^ 31) (c : y ≤ x) : a ≥ b := by rw [h, k] at c; exact (nI_leI hb ha).mp c
theorem ngeF {x y : Int32} {a b : Nat} (h : x = nI a) (k : y = nI b) (ha : a < 2 ^ 31) (hb : b < 2 ^ 31) (c : ¬ y ≤ x) : ¬ a ≥ b := by rw [h, k] at c; exact fun z => c ((nI_leI hb ha).mpr z)
theorem ngtT {x y : Int32} {a b : Nat} (h : x = nI a) (k : y = nI b) (ha : a < 2 ^ 31) (hb : b < 2 ^ 31) (c : y < x) : a > b := by rw [h, k] at c; exact (nI_ltI hb ha).mp c
theorem ngtF {x y : Int32} {a b : Nat} (h : x = nI a) (k : y = nI b) (ha : a < 2 ^ 31) (hb : b < 2 ^ 31) (c : ¬ y < x) : ¬ a > b := by rw [h, k] at c; exact fun z => c ((nI_ltI hb ha).mpr z)
theorem nleT {x y : Int32} {a b : Nat} (h : x = nI a) (k : y = nI b) (ha : a < 2 ^ 31) (hb : b < 2 ^ 31) (c : x ≤ y) : a ≤ b := by rw [h, k] at c; exact (nI_leI ha hb).mp c
theorem nleF {x y : Int32} {a b : Nat} (h : x = nI a) (k : y = nI b) (ha : a < 2 ^ 31) (hb : b < 2 ^ 31) (c : ¬ x ≤ y) : ¬ a ≤ b := by rw [h, k] at c; exact fun z => c ((nI_leI ha hb).mpr z)
theorem neqT {x y : Int32} {a b : Nat} (h : x = nI a) (k : y = nI b) (ha : a < 2 ^ 31) (hb : b < 2 ^ 31) (c : x = y) : a = b := by rw [h, k] at c; exact (nI_eq ha hb).mp c
theorem neqF {x y : Int32} {a b : Nat} (h : x = nI a) (k : y = nI b) (ha : a < 2 ^ 31) (hb : b < 2 ^ 31) (c : ¬ x = y) : ¬ a = b := by rw [h, k] at c; exact fun z => c ((nI_eq ha hb).mpr z)
theorem nneT {x y : Int32} {a b : Nat} (h : x = nI a) (k : y = nI b) (ha : a < 2 ^ 31) (hb : b < 2 ^ 31) (c : ¬ x = y) : ¬ a = b := neqF h k ha hb c
theorem nneF {x y : Int32} {a b : Nat} (h : x = nI a) (k : y = nI b) (ha : a < 2 ^ 31) (hb : b < 2 ^ 31) (c : x = y) : a = b := neqT h k ha hb c
theorem bI_eq0 {b : Bool} : bI b = 0 ↔ b = false := by cases b <;> decide
theorem bI_t {b : Bool} (h : ¬ bI b = 0) : b = true := by cases b <;> simp_all [bI]
theorem bI_f {b : Bool} (h : bI b = 0) : b = false := by cases b <;> simp_all [bI]
theorem bI_inj {a b : Bool} : bI a = bI b ↔ a = b := by cases a <;> cases b <;> decide
theorem cmp_lt (x y : Int64) : lg_cmp x y < 0 ↔ x < y := by
  unfold lg_cmp
  by_cases h1 : x > y
  · rw [if_pos h1]
    exact ⟨fun h => absurd h (by decide), fun h => absurd (Int64.lt_iff_toInt_lt.mp h) (by have := Int64.lt_iff_toInt_lt.mp h1; omega)⟩
  · rw [if_neg h1]
    by_cases h2 : x = y
    · rw [if_pos h2]
      exact ⟨fun h => absurd h (by decide), fun h => absurd (Int64.lt_iff_toInt_lt.mp h) (by rw [h2]; omega)⟩
    · rw [if_neg h2]
      refine ⟨fun _ => Int64.lt_iff_toInt_lt.mpr ?_, fun _ => by decide⟩
      have e1 : ¬ y.toInt < x.toInt := fun z => h1 (Int64.lt_iff_toInt_lt.mpr z)
      have e2 : ¬ x.toInt = y.toInt := fun z => h2 (Int64.toInt_inj.mp z)
      omega
theorem cmp_gt (x y : Int64) : 0 < lg_cmp x y ↔ y < x := by
  unfold lg_cmp
  by_cases h1 : x > y
  · rw [if_pos h1]
    exact ⟨fun _ => h1, fun _ => by decide⟩
  · rw [if_neg h1]
    refine ⟨fun h => ?_, fun h => absurd h h1⟩
    by_cases h2 : x = y
    · rw [if_pos h2] at h; exact absurd h (by decide)
    · rw [if_neg h2] at h; exact absurd h (by decide)
theorem cmp_eq (x y : Int64) : lg_cmp x y = 0 ↔ x = y := by
  unfold lg_cmp
  by_cases h1 : x > y
  · rw [if_pos h1]
    refine ⟨fun h => absurd h (by decide), fun h => ?_⟩
    subst h
    exact absurd (Int64.lt_iff_toInt_lt.mp h1) (by omega)
  · rw [if_neg h1]
    by_cases h2 : x = y
    · rw [if_pos h2]; exact ⟨fun _ => h2, fun _ => rfl⟩
    · rw [if_neg h2]; exact ⟨fun h => absurd h (by decide), fun h => absurd h h2⟩
section ML
variable {p : Program} {l : Launch} {e : Env} {R : Room} {s : State} {m : MethodId} {args : Array Value} {below : List Frame} {meth : Method} {c : Code} {H : Heap} {locs : List Loc} {cells slots : Nat} {Q : State → Prop}
variable {cc : ByteArray} {pc nL : Nat} {ls : Array Slot} {rest : List Value}
theorem m_lcmp_lt {x y : Int64} {off : Int} {tgt : Nat} (hx : p.tables.exec = Jvm.exec) (hb : c.code = cc) (d1 : decode cc pc = .ok (.lcmp, 1)) (d2 : decode cc (pc + 1) = .ok (.ifCond .lt off, 3)) (ht : ((pc + 1 : Nat) : Int) + off = (tgt : Int)) (kt : x < y → W p l e R s m args below meth c H locs cells slots Q (F0 m tgt ls rest)) (kf : ¬ x < y → W p l e R s m args below meth c H locs cells slots Q (F0 m (pc + 1 + 3) ls rest)) : W p l e R s m args below meth c H locs cells slots Q (F0 m pc ls (.long y :: .long x :: rest)) :=
  W.lcmp hx hb d1 (lv_if_lt hx hb d2 ht (fun h => kt ((cmp_lt x y).mp h)) (fun h => kf (fun z => h ((cmp_lt x y).mpr z))))
theorem m_lcmp_ge {x y : Int64} {off : Int} {tgt : Nat} (hx : p.tables.exec = Jvm.exec) (hb : c.code = cc) (d1 : decode cc pc = .ok (.lcmp, 1)) (d2 : decode cc (pc + 1) = .ok (.ifCond .ge off, 3)) (ht : ((pc + 1 : Nat) : Int) + off = (tgt : Int)) (kt : ¬ x < y → W p l e R s m args below meth c H locs cells slots Q (F0 m tgt ls rest)) (kf : ¬ ¬ x < y → W p l e R s m args below meth c H locs cells slots Q (F0 m (pc + 1 + 3) ls rest)) : W p l e R s m args below meth c H locs cells slots Q (F0 m pc ls (.long y :: .long x :: rest)) :=
  W.lcmp hx hb d1 (lv_if_ge hx hb d2 ht (fun h => kt (fun z => absurd (Int32.lt_iff_toInt_lt.mp ((cmp_lt x y).mpr z)) (by have := Int32.le_iff_toInt_le.mp h; omega))) (fun h => kf (fun z => h (Int32.not_lt.mp (fun q => z ((cmp_lt x y).mp q))))))
theorem m_lcmp_gt {x y : Int64} {off : Int} {tgt : Nat} (hx : p.tables.exec = Jvm.exec) (hb : c.code = cc) (d1 : decode cc pc = .ok (.lcmp, 1)) (d2 : decode cc (pc + 1) = .ok (.ifCond .gt off, 3)) (ht : ((pc + 1 : Nat) : Int) + off = (tgt : Int)) (kt : y < x → W p l e R s m args below meth c H locs cells slots Q (F0 m tgt ls rest)) (kf : ¬ y < x → W p l e R s m args below meth c H locs cells slots Q (F0 m (pc + 1 + 3) ls rest)) : W p l e R s m args below meth c H locs cells slots Q (F0 m pc ls (.long y :: .long x :: rest)) :=
  W.lcmp hx hb d1 (lv_if_gt hx hb d2 ht (fun h => kt ((cmp_gt x y).mp h)) (fun h => kf (fun z => h ((cmp_gt x y).mpr z))))
theorem m_lcmp_le {x y : Int64} {off : Int} {tgt : Nat} (hx : p.tables.exec = Jvm.exec) (hb : c.code = cc) (d1 : decode cc pc = .ok (.lcmp, 1)) (d2 : decode cc (pc + 1) = .ok (.ifCond .le off, 3)) (ht : ((pc + 1 : Nat) : Int) + off = (tgt : Int)) (kt : ¬ y < x → W p l e R s m args below meth c H locs cells slots Q (F0 m tgt ls rest)) (kf : ¬ ¬ y < x → W p l e R s m args below meth c H locs cells slots Q (F0 m (pc + 1 + 3) ls rest)) : W p l e R s m args below meth c H locs cells slots Q (F0 m pc ls (.long y :: .long x :: rest)) :=
  W.lcmp hx hb d1 (lv_if_le hx hb d2 ht (fun h => kt (fun z => absurd (Int32.lt_iff_toInt_lt.mp ((cmp_gt x y).mpr z)) (by have := Int32.le_iff_toInt_le.mp h; omega))) (fun h => kf (fun z => h (Int32.not_lt.mp (fun q => z ((cmp_gt x y).mp q))))))
theorem m_lcmp_eq {x y : Int64} {off : Int} {tgt : Nat} (hx : p.tables.exec = Jvm.exec) (hb : c.code = cc) (d1 : decode cc pc = .ok (.lcmp, 1)) (d2 : decode cc (pc + 1) = .ok (.ifCond .eq off, 3)) (ht : ((pc + 1 : Nat) : Int) + off = (tgt : Int)) (kt : x = y → W p l e R s m args below meth c H locs cells slots Q (F0 m tgt ls rest)) (kf : ¬ x = y → W p l e R s m args below meth c H locs cells slots Q (F0 m (pc + 1 + 3) ls rest)) : W p l e R s m args below meth c H locs cells slots Q (F0 m pc ls (.long y :: .long x :: rest)) :=
  W.lcmp hx hb d1 (lv_if_eq hx hb d2 ht (fun h => kt ((cmp_eq x y).mp h)) (fun h => kf (fun z => h ((cmp_eq x y).mpr z))))
theorem m_lcmp_ne {x y : Int64} {off : Int} {tgt : Nat} (hx : p.tables.exec = Jvm.exec) (hb : c.code = cc) (d1 : decode cc pc = .ok (.lcmp, 1)) (d2 : decode cc (pc + 1) = .ok (.ifCond .ne off, 3)) (ht : ((pc + 1 : Nat) : Int) + off = (tgt : Int)) (kt : ¬ x = y → W p l e R s m args below meth c H locs cells slots Q (F0 m tgt ls rest)) (kf : x = y → W p l e R s m args below meth c H locs cells slots Q (F0 m (pc + 1 + 3) ls rest)) : W p l e R s m args below meth c H locs cells slots Q (F0 m pc ls (.long y :: .long x :: rest)) :=
  W.lcmp hx hb d1 (lv_if_ne hx hb d2 ht (fun h => kt (fun z => h ((cmp_eq x y).mpr z))) (fun h => kf ((cmp_eq x y).mp h)))
end ML
section RN
variable {p : Program} {l : Launch} {e : Env} {R : Room} {s : State} {m : MethodId} {args : Array Value} {below : List Frame} {meth : Method} {c : Code} {H : Heap} {locs : List Loc} {cells slots : Nat} {Q : State → Prop}
variable {cc : ByteArray} {pc nL : Nat} {ls : Array Slot} {rest : List Value} {Γ : mG} {A : Nat → Prop} {L : mI → Nat} {x : RS}
theorem r_ald1N {i : Int32} {n : Nat} (X : mX Γ p m c cc nL s args RX10 A) (hw : mW Γ.1 vwCl A L (rM Γ L x) H) (hi : i = nI n) (hn : n < 8) (hdg : decode cc pc = .ok (.iaload, 1)) (kk : W p l e R s m args below meth c H locs cells slots Q (F0 m (pc + 1) ls (.int (x.2.1 1 n) :: rest))) : W p l e R s m args below meth c H locs cells slots Q (F0 m pc ls (.int i :: .ref (L (.inr (0, 1, 0))) :: rest)) := by
  subst hi
  refine r_ald1 X hw (vp_in_nI hn (by decide)) hdg ?_
  rw [nI_clamp (by omega)]
  exact kk
theorem r_ast1N {i : Int32} {v : Int32} {n : Nat} (X : mX Γ p m c cc nL s args RX10 A) (hw : mW Γ.1 vwCl A L (rM Γ L x) H) (hS : va_S A s.heap H locs) (hi : i = nI n) (hn : n < 8) (hdg : decode cc pc = .ok (.iastore, 1)) (kk : ∀ (H1 : Heap) (locs1 : List Loc), mW Γ.1 vwCl A L (rM Γ L (sA x 1 n v)) H1 → va_S A s.heap H1 locs1 → W p l e R s m args below meth c H1 locs1 cells slots Q (F0 m (pc + 1) ls rest)) : W p l e R s m args below meth c H locs cells slots Q (F0 m pc ls (.int v :: .int i :: .ref (L (.inr (0, 1, 0))) :: rest)) := by
  subst hi
  refine r_ast1 X hw hS (vp_in_nI hn (by decide)) hdg ?_
  rw [nI_clamp (by omega)]
  exact kk
theorem r_ald2N {i : Int32} {n : Nat} (X : mX Γ p m c cc nL s args RX10 A) (hw : mW Γ.1 vwCl A L (rM Γ L x) H) (hi : i = nI n) (hn : n < 8) (hdg : decode cc pc = .ok (.iaload, 1)) (kk : W p l e R s m args below meth c H locs cells slots Q (F0 m (pc + 1) ls (.int (x.2.1 2 n) :: rest))) : W p l e R s m args below meth c H locs cells slots Q (F0 m pc ls (.int i :: .ref (L (.inr (0, 2, 0))) :: rest)) := by
  subst hi
  refine r_ald2 X hw (vp_in_nI hn (by decide)) hdg ?_
  rw [nI_clamp (by omega)]
  exact kk
theorem r_ast2N {i : Int32} {v : Int32} {n : Nat} (X : mX Γ p m c cc nL s args RX10 A) (hw : mW Γ.1 vwCl A L (rM Γ L x) H) (hS : va_S A s.heap H locs) (hi : i = nI n) (hn : n < 8) (hdg : decode cc pc = .ok (.iastore, 1)) (kk : ∀ (H1 : Heap) (locs1 : List Loc), mW Γ.1 vwCl A L (rM Γ L (sA x 2 n v)) H1 → va_S A s.heap H1 locs1 → W p l e R s m args below meth c H1 locs1 cells slots Q (F0 m (pc + 1) ls rest)) : W p l e R s m args below meth c H locs cells slots Q (F0 m pc ls (.int v :: .int i :: .ref (L (.inr (0, 2, 0))) :: rest)) := by
  subst hi
  refine r_ast2 X hw hS (vp_in_nI hn (by decide)) hdg ?_
  rw [nI_clamp (by omega)]
  exact kk
theorem r_ald3N {i : Int32} {n : Nat} (X : mX Γ p m c cc nL s args RX10 A) (hw : mW Γ.1 vwCl A L (rM Γ L x) H) (hi : i = nI n) (hn : n < 320) (hdg : decode cc pc = .ok (.iaload, 1)) (kk : W p l e R s m args below meth c H locs cells slots Q (F0 m (pc + 1) ls (.int (x.2.1 3 n) :: rest))) : W p l e R s m args below meth c H locs cells slots Q (F0 m pc ls (.int i :: .ref (L (.inr (0, 3, 0))) :: rest)) := by
  subst hi
  refine r_ald3 X hw (vp_in_nI hn (by decide)) hdg ?_
  rw [nI_clamp (by omega)]
  exact kk
theorem r_ast3N {i : Int32} {v : Int32} {n : Nat} (X : mX Γ p m c cc nL s args RX10 A) (hw : mW Γ.1 vwCl A L (rM Γ L x) H) (hS : va_S A s.heap H locs) (hi : i = nI n) (hn : n < 320) (hdg : decode cc pc = .ok (.iastore, 1)) (kk : ∀ (H1 : Heap) (locs1 : List Loc), mW Γ.1 vwCl A L (rM Γ L (sA x 3 n v)) H1 → va_S A s.heap H1 locs1 → W p l e R s m args below meth c H1 locs1 cells slots Q (F0 m (pc + 1) ls rest)) : W p l e R s m args below meth c H locs cells slots Q (F0 m pc ls (.int v :: .int i :: .ref (L (.inr (0, 3, 0))) :: rest)) := by
  subst hi
  refine r_ast3 X hw hS (vp_in_nI hn (by decide)) hdg ?_
  rw [nI_clamp (by omega)]
  exact kk
theorem r_ald4N {i : Int32} {n : Nat} (X : mX Γ p m c cc nL s args RX10 A) (hw : mW Γ.1 vwCl A L (rM Γ L x) H) (hi : i = nI n) (hn : n < 320) (hdg : decode cc pc = .ok (.laload, 1)) (kk : W p l e R s m args below meth c H locs cells slots Q (F0 m (pc + 1) ls (.long (x.2.2 4 n) :: rest))) : W p l e R s m args below meth c H locs cells slots Q (F0 m pc ls (.int i :: .ref (L (.inr (0, 4, 0))) :: rest)) := by
  subst hi
  refine r_ald4 X hw (vp_in_nI hn (by decide)) hdg ?_
  rw [nI_clamp (by omega)]
  exact kk
theorem r_ast4N {i : Int32} {v : Int64} {n : Nat} (X : mX Γ p m c cc nL s args RX10 A) (hw : mW Γ.1 vwCl A L (rM Γ L x) H) (hS : va_S A s.heap H locs) (hi : i = nI n) (hn : n < 320) (hdg : decode cc pc = .ok (.lastore, 1)) (kk : ∀ (H1 : Heap) (locs1 : List Loc), mW Γ.1 vwCl A L (rM Γ L (sJ x 4 n v)) H1 → va_S A s.heap H1 locs1 → W p l e R s m args below meth c H1 locs1 cells slots Q (F0 m (pc + 1) ls rest)) : W p l e R s m args below meth c H locs cells slots Q (F0 m pc ls (.long v :: .int i :: .ref (L (.inr (0, 4, 0))) :: rest)) := by
  subst hi
  refine r_ast4 X hw hS (vp_in_nI hn (by decide)) hdg ?_
  rw [nI_clamp (by omega)]
  exact kk
theorem r_ald5N {i : Int32} {n : Nat} (X : mX Γ p m c cc nL s args RX10 A) (hw : mW Γ.1 vwCl A L (rM Γ L x) H) (hi : i = nI n) (hn : n < 8) (hdg : decode cc pc = .ok (.iaload, 1)) (kk : W p l e R s m args below meth c H locs cells slots Q (F0 m (pc + 1) ls (.int (x.2.1 5 n) :: rest))) : W p l e R s m args below meth c H locs cells slots Q (F0 m pc ls (.int i :: .ref (L (.inr (0, 5, 0))) :: rest)) := by
  subst hi
  refine r_ald5 X hw (vp_in_nI hn (by decide)) hdg ?_
  rw [nI_clamp (by omega)]
  exact kk
theorem r_ast5N {i : Int32} {v : Int32} {n : Nat} (X : mX Γ p m c cc nL s args RX10 A) (hw : mW Γ.1 vwCl A L (rM Γ L x) H) (hS : va_S A s.heap H locs) (hi : i = nI n) (hn : n < 8) (hdg : decode cc pc = .ok (.iastore, 1)) (kk : ∀ (H1 : Heap) (locs1 : List Loc), mW Γ.1 vwCl A L (rM Γ L (sA x 5 n v)) H1 → va_S A s.heap H1 locs1 → W p l e R s m args below meth c H1 locs1 cells slots Q (F0 m (pc + 1) ls rest)) : W p l e R s m args below meth c H locs cells slots Q (F0 m pc ls (.int v :: .int i :: .ref (L (.inr (0, 5, 0))) :: rest)) := by
  subst hi
  refine r_ast5 X hw hS (vp_in_nI hn (by decide)) hdg ?_
  rw [nI_clamp (by omega)]
  exact kk
theorem r_ald6N {i : Int32} {n : Nat} (X : mX Γ p m c cc nL s args RX10 A) (hw : mW Γ.1 vwCl A L (rM Γ L x) H) (hi : i = nI n) (hn : n < 192) (hdg : decode cc pc = .ok (.iaload, 1)) (kk : W p l e R s m args below meth c H locs cells slots Q (F0 m (pc + 1) ls (.int (x.2.1 6 n) :: rest))) : W p l e R s m args below meth c H locs cells slots Q (F0 m pc ls (.int i :: .ref (L (.inr (0, 6, 0))) :: rest)) := by
  subst hi
  refine r_ald6 X hw (vp_in_nI hn (by decide)) hdg ?_
  rw [nI_clamp (by omega)]
  exact kk
theorem r_ast6N {i : Int32} {v : Int32} {n : Nat} (X : mX Γ p m c cc nL s args RX10 A) (hw : mW Γ.1 vwCl A L (rM Γ L x) H) (hS : va_S A s.heap H locs) (hi : i = nI n) (hn : n < 192) (hdg : decode cc pc = .ok (.iastore, 1)) (kk : ∀ (H1 : Heap) (locs1 : List Loc), mW Γ.1 vwCl A L (rM Γ L (sA x 6 n v)) H1 → va_S A s.heap H1 locs1 → W p l e R s m args below meth c H1 locs1 cells slots Q (F0 m (pc + 1) ls rest)) : W p l e R s m args below meth c H locs cells slots Q (F0 m pc ls (.int v :: .int i :: .ref (L (.inr (0, 6, 0))) :: rest)) := by
  subst hi
  refine r_ast6 X hw hS (vp_in_nI hn (by decide)) hdg ?_
  rw [nI_clamp (by omega)]
  exact kk
theorem r_ald7N {i : Int32} {n : Nat} (X : mX Γ p m c cc nL s args RX10 A) (hw : mW Γ.1 vwCl A L (rM Γ L x) H) (hi : i = nI n) (hn : n < 320) (hdg : decode cc pc = .ok (.iaload, 1)) (kk : W p l e R s m args below meth c H locs cells slots Q (F0 m (pc + 1) ls (.int (x.2.1 7 n) :: rest))) : W p l e R s m args below meth c H locs cells slots Q (F0 m pc ls (.int i :: .ref (L (.inr (0, 7, 0))) :: rest)) := by
  subst hi
  refine r_ald7 X hw (vp_in_nI hn (by decide)) hdg ?_
  rw [nI_clamp (by omega)]
  exact kk
theorem r_ast7N {i : Int32} {v : Int32} {n : Nat} (X : mX Γ p m c cc nL s args RX10 A) (hw : mW Γ.1 vwCl A L (rM Γ L x) H) (hS : va_S A s.heap H locs) (hi : i = nI n) (hn : n < 320) (hdg : decode cc pc = .ok (.iastore, 1)) (kk : ∀ (H1 : Heap) (locs1 : List Loc), mW Γ.1 vwCl A L (rM Γ L (sA x 7 n v)) H1 → va_S A s.heap H1 locs1 → W p l e R s m args below meth c H1 locs1 cells slots Q (F0 m (pc + 1) ls rest)) : W p l e R s m args below meth c H locs cells slots Q (F0 m pc ls (.int v :: .int i :: .ref (L (.inr (0, 7, 0))) :: rest)) := by
  subst hi
  refine r_ast7 X hw hS (vp_in_nI hn (by decide)) hdg ?_
  rw [nI_clamp (by omega)]
  exact kk
theorem r_ald8N {i : Int32} {n : Nat} (X : mX Γ p m c cc nL s args RX10 A) (hw : mW Γ.1 vwCl A L (rM Γ L x) H) (hi : i = nI n) (hn : n < 5120) (hdg : decode cc pc = .ok (.iaload, 1)) (kk : W p l e R s m args below meth c H locs cells slots Q (F0 m (pc + 1) ls (.int (x.2.1 8 n) :: rest))) : W p l e R s m args below meth c H locs cells slots Q (F0 m pc ls (.int i :: .ref (L (.inr (0, 8, 0))) :: rest)) := by
  subst hi
  refine r_ald8 X hw (vp_in_nI hn (by decide)) hdg ?_
  rw [nI_clamp (by omega)]
  exact kk
theorem r_ast8N {i : Int32} {v : Int32} {n : Nat} (X : mX Γ p m c cc nL s args RX10 A) (hw : mW Γ.1 vwCl A L (rM Γ L x) H) (hS : va_S A s.heap H locs) (hi : i = nI n) (hn : n < 5120) (hdg : decode cc pc = .ok (.iastore, 1)) (kk : ∀ (H1 : Heap) (locs1 : List Loc), mW Γ.1 vwCl A L (rM Γ L (sA x 8 n v)) H1 → va_S A s.heap H1 locs1 → W p l e R s m args below meth c H1 locs1 cells slots Q (F0 m (pc + 1) ls rest)) : W p l e R s m args below meth c H locs cells slots Q (F0 m pc ls (.int v :: .int i :: .ref (L (.inr (0, 8, 0))) :: rest)) := by
  subst hi
  refine r_ast8 X hw hS (vp_in_nI hn (by decide)) hdg ?_
  rw [nI_clamp (by omega)]
  exact kk
theorem r_ald9N {i : Int32} {n : Nat} (X : mX Γ p m c cc nL s args RX10 A) (hw : mW Γ.1 vwCl A L (rM Γ L x) H) (hi : i = nI n) (hn : n < 8) (hdg : decode cc pc = .ok (.baload, 1)) (kk : W p l e R s m args below meth c H locs cells slots Q (F0 m (pc + 1) ls (.int (x.2.1 9 n) :: rest))) : W p l e R s m args below meth c H locs cells slots Q (F0 m pc ls (.int i :: .ref (L (.inr (0, 9, 0))) :: rest)) := by
  subst hi
  refine r_ald9 X hw (vp_in_nI hn (by decide)) hdg ?_
  rw [nI_clamp (by omega)]
  exact kk
theorem r_ast9N {i : Int32} {v : Int32} {n : Nat} (X : mX Γ p m c cc nL s args RX10 A) (hw : mW Γ.1 vwCl A L (rM Γ L x) H) (hS : va_S A s.heap H locs) (hi : i = nI n) (hn : n < 8) (hdg : decode cc pc = .ok (.bastore, 1)) (kk : ∀ (H1 : Heap) (locs1 : List Loc), mW Γ.1 vwCl A L (rM Γ L (sA x 9 n (vp_nar .boolean v))) H1 → va_S A s.heap H1 locs1 → W p l e R s m args below meth c H1 locs1 cells slots Q (F0 m (pc + 1) ls rest)) : W p l e R s m args below meth c H locs cells slots Q (F0 m pc ls (.int v :: .int i :: .ref (L (.inr (0, 9, 0))) :: rest)) := by
  subst hi
  refine r_ast9 X hw hS (vp_in_nI hn (by decide)) hdg ?_
  rw [nI_clamp (by omega)]
  exact kk
theorem r_ald11N {i : Int32} {n : Nat} (X : mX Γ p m c cc nL s args RX10 A) (hw : mW Γ.1 vwCl A L (rM Γ L x) H) (hi : i = nI n) (hn : n < 40) (hdg : decode cc pc = .ok (.iaload, 1)) (kk : W p l e R s m args below meth c H locs cells slots Q (F0 m (pc + 1) ls (.int (x.2.1 11 n) :: rest))) : W p l e R s m args below meth c H locs cells slots Q (F0 m pc ls (.int i :: .ref (L (.inr (0, 11, 0))) :: rest)) := by
  subst hi
  refine r_ald11 X hw (vp_in_nI hn (by decide)) hdg ?_
  rw [nI_clamp (by omega)]
  exact kk
theorem r_ast11N {i : Int32} {v : Int32} {n : Nat} (X : mX Γ p m c cc nL s args RX10 A) (hw : mW Γ.1 vwCl A L (rM Γ L x) H) (hS : va_S A s.heap H locs) (hi : i = nI n) (hn : n < 40) (hdg : decode cc pc = .ok (.iastore, 1)) (kk : ∀ (H1 : Heap) (locs1 : List Loc), mW Γ.1 vwCl A L (rM Γ L (sA x 11 n v)) H1 → va_S A s.heap H1 locs1 → W p l e R s m args below meth c H1 locs1 cells slots Q (F0 m (pc + 1) ls rest)) : W p l e R s m args below meth c H locs cells slots Q (F0 m pc ls (.int v :: .int i :: .ref (L (.inr (0, 11, 0))) :: rest)) := by
  subst hi
  refine r_ast11 X hw hS (vp_in_nI hn (by decide)) hdg ?_
  rw [nI_clamp (by omega)]
  exact kk
theorem r_ald12N {i : Int32} {n : Nat} (X : mX Γ p m c cc nL s args RX10 A) (hw : mW Γ.1 vwCl A L (rM Γ L x) H) (hi : i = nI n) (hn : n < 640) (hdg : decode cc pc = .ok (.iaload, 1)) (kk : W p l e R s m args below meth c H locs cells slots Q (F0 m (pc + 1) ls (.int (x.2.1 12 n) :: rest))) : W p l e R s m args below meth c H locs cells slots Q (F0 m pc ls (.int i :: .ref (L (.inr (0, 12, 0))) :: rest)) := by
  subst hi
  refine r_ald12 X hw (vp_in_nI hn (by decide)) hdg ?_
  rw [nI_clamp (by omega)]
  exact kk
theorem r_ast12N {i : Int32} {v : Int32} {n : Nat} (X : mX Γ p m c cc nL s args RX10 A) (hw : mW Γ.1 vwCl A L (rM Γ L x) H) (hS : va_S A s.heap H locs) (hi : i = nI n) (hn : n < 640) (hdg : decode cc pc = .ok (.iastore, 1)) (kk : ∀ (H1 : Heap) (locs1 : List Loc), mW Γ.1 vwCl A L (rM Γ L (sA x 12 n v)) H1 → va_S A s.heap H1 locs1 → W p l e R s m args below meth c H1 locs1 cells slots Q (F0 m (pc + 1) ls rest)) : W p l e R s m args below meth c H locs cells slots Q (F0 m pc ls (.int v :: .int i :: .ref (L (.inr (0, 12, 0))) :: rest)) := by
  subst hi
  refine r_ast12 X hw hS (vp_in_nI hn (by decide)) hdg ?_
  rw [nI_clamp (by omega)]
  exact kk
theorem r_ald14N {i : Int32} {n : Nat} (X : mX Γ p m c cc nL s args RX10 A) (hw : mW Γ.1 vwCl A L (rM Γ L x) H) (hi : i = nI n) (hn : n < 16) (hdg : decode cc pc = .ok (.iaload, 1)) (kk : W p l e R s m args below meth c H locs cells slots Q (F0 m (pc + 1) ls (.int (x.2.1 14 n) :: rest))) : W p l e R s m args below meth c H locs cells slots Q (F0 m pc ls (.int i :: .ref (L (.inr (0, 14, 0))) :: rest)) := by
  subst hi
  refine r_ald14 X hw (vp_in_nI hn (by decide)) hdg ?_
  rw [nI_clamp (by omega)]
  exact kk
theorem r_ast14N {i : Int32} {v : Int32} {n : Nat} (X : mX Γ p m c cc nL s args RX10 A) (hw : mW Γ.1 vwCl A L (rM Γ L x) H) (hS : va_S A s.heap H locs) (hi : i = nI n) (hn : n < 16) (hdg : decode cc pc = .ok (.iastore, 1)) (kk : ∀ (H1 : Heap) (locs1 : List Loc), mW Γ.1 vwCl A L (rM Γ L (sA x 14 n v)) H1 → va_S A s.heap H1 locs1 → W p l e R s m args below meth c H1 locs1 cells slots Q (F0 m (pc + 1) ls rest)) : W p l e R s m args below meth c H locs cells slots Q (F0 m pc ls (.int v :: .int i :: .ref (L (.inr (0, 14, 0))) :: rest)) := by
  subst hi
  refine r_ast14 X hw hS (vp_in_nI hn (by decide)) hdg ?_
  rw [nI_clamp (by omega)]
  exact kk
theorem r_ald17N {i : Int32} {n : Nat} (X : mX Γ p m c cc nL s args RX10 A) (hw : mW Γ.1 vwCl A L (rM Γ L x) H) (hi : i = nI n) (hn : n < 8) (hdg : decode cc pc = .ok (.iaload, 1)) (kk : W p l e R s m args below meth c H locs cells slots Q (F0 m (pc + 1) ls (.int (x.2.1 17 n) :: rest))) : W p l e R s m args below meth c H locs cells slots Q (F0 m pc ls (.int i :: .ref (L (.inr (0, 17, 0))) :: rest)) := by
  subst hi
  refine r_ald17 X hw (vp_in_nI hn (by decide)) hdg ?_
  rw [nI_clamp (by omega)]
  exact kk
theorem r_ast17N {i : Int32} {v : Int32} {n : Nat} (X : mX Γ p m c cc nL s args RX10 A) (hw : mW Γ.1 vwCl A L (rM Γ L x) H) (hS : va_S A s.heap H locs) (hi : i = nI n) (hn : n < 8) (hdg : decode cc pc = .ok (.iastore, 1)) (kk : ∀ (H1 : Heap) (locs1 : List Loc), mW Γ.1 vwCl A L (rM Γ L (sA x 17 n v)) H1 → va_S A s.heap H1 locs1 → W p l e R s m args below meth c H1 locs1 cells slots Q (F0 m (pc + 1) ls rest)) : W p l e R s m args below meth c H locs cells slots Q (F0 m pc ls (.int v :: .int i :: .ref (L (.inr (0, 17, 0))) :: rest)) := by
  subst hi
  refine r_ast17 X hw hS (vp_in_nI hn (by decide)) hdg ?_
  rw [nI_clamp (by omega)]
  exact kk
theorem r_ald18N {i : Int32} {n : Nat} (X : mX Γ p m c cc nL s args RX10 A) (hw : mW Γ.1 vwCl A L (rM Γ L x) H) (hi : i = nI n) (hn : n < 128) (hdg : decode cc pc = .ok (.laload, 1)) (kk : W p l e R s m args below meth c H locs cells slots Q (F0 m (pc + 1) ls (.long (x.2.2 18 n) :: rest))) : W p l e R s m args below meth c H locs cells slots Q (F0 m pc ls (.int i :: .ref (L (.inr (0, 18, 0))) :: rest)) := by
  subst hi
  refine r_ald18 X hw (vp_in_nI hn (by decide)) hdg ?_
  rw [nI_clamp (by omega)]
  exact kk
theorem r_ast18N {i : Int32} {v : Int64} {n : Nat} (X : mX Γ p m c cc nL s args RX10 A) (hw : mW Γ.1 vwCl A L (rM Γ L x) H) (hS : va_S A s.heap H locs) (hi : i = nI n) (hn : n < 128) (hdg : decode cc pc = .ok (.lastore, 1)) (kk : ∀ (H1 : Heap) (locs1 : List Loc), mW Γ.1 vwCl A L (rM Γ L (sJ x 18 n v)) H1 → va_S A s.heap H1 locs1 → W p l e R s m args below meth c H1 locs1 cells slots Q (F0 m (pc + 1) ls rest)) : W p l e R s m args below meth c H locs cells slots Q (F0 m pc ls (.long v :: .int i :: .ref (L (.inr (0, 18, 0))) :: rest)) := by
  subst hi
  refine r_ast18 X hw hS (vp_in_nI hn (by decide)) hdg ?_
  rw [nI_clamp (by omega)]
  exact kk
theorem r_ald19N {i : Int32} {n : Nat} (X : mX Γ p m c cc nL s args RX10 A) (hw : mW Γ.1 vwCl A L (rM Γ L x) H) (hi : i = nI n) (hn : n < 8) (hdg : decode cc pc = .ok (.iaload, 1)) (kk : W p l e R s m args below meth c H locs cells slots Q (F0 m (pc + 1) ls (.int (x.2.1 19 n) :: rest))) : W p l e R s m args below meth c H locs cells slots Q (F0 m pc ls (.int i :: .ref (L (.inr (0, 19, 0))) :: rest)) := by
  subst hi
  refine r_ald19 X hw (vp_in_nI hn (by decide)) hdg ?_
  rw [nI_clamp (by omega)]
  exact kk
theorem r_ast19N {i : Int32} {v : Int32} {n : Nat} (X : mX Γ p m c cc nL s args RX10 A) (hw : mW Γ.1 vwCl A L (rM Γ L x) H) (hS : va_S A s.heap H locs) (hi : i = nI n) (hn : n < 8) (hdg : decode cc pc = .ok (.iastore, 1)) (kk : ∀ (H1 : Heap) (locs1 : List Loc), mW Γ.1 vwCl A L (rM Γ L (sA x 19 n v)) H1 → va_S A s.heap H1 locs1 → W p l e R s m args below meth c H1 locs1 cells slots Q (F0 m (pc + 1) ls rest)) : W p l e R s m args below meth c H locs cells slots Q (F0 m pc ls (.int v :: .int i :: .ref (L (.inr (0, 19, 0))) :: rest)) := by
  subst hi
  refine r_ast19 X hw hS (vp_in_nI hn (by decide)) hdg ?_
  rw [nI_clamp (by omega)]
  exact kk
theorem r_ald20N {i : Int32} {n : Nat} (X : mX Γ p m c cc nL s args RX10 A) (hw : mW Γ.1 vwCl A L (rM Γ L x) H) (hi : i = nI n) (hn : n < 8) (hdg : decode cc pc = .ok (.iaload, 1)) (kk : W p l e R s m args below meth c H locs cells slots Q (F0 m (pc + 1) ls (.int (x.2.1 20 n) :: rest))) : W p l e R s m args below meth c H locs cells slots Q (F0 m pc ls (.int i :: .ref (L (.inr (0, 20, 0))) :: rest)) := by
  subst hi
  refine r_ald20 X hw (vp_in_nI hn (by decide)) hdg ?_
  rw [nI_clamp (by omega)]
  exact kk
theorem r_ast20N {i : Int32} {v : Int32} {n : Nat} (X : mX Γ p m c cc nL s args RX10 A) (hw : mW Γ.1 vwCl A L (rM Γ L x) H) (hS : va_S A s.heap H locs) (hi : i = nI n) (hn : n < 8) (hdg : decode cc pc = .ok (.iastore, 1)) (kk : ∀ (H1 : Heap) (locs1 : List Loc), mW Γ.1 vwCl A L (rM Γ L (sA x 20 n v)) H1 → va_S A s.heap H1 locs1 → W p l e R s m args below meth c H1 locs1 cells slots Q (F0 m (pc + 1) ls rest)) : W p l e R s m args below meth c H locs cells slots Q (F0 m pc ls (.int v :: .int i :: .ref (L (.inr (0, 20, 0))) :: rest)) := by
  subst hi
  refine r_ast20 X hw hS (vp_in_nI hn (by decide)) hdg ?_
  rw [nI_clamp (by omega)]
  exact kk
theorem r_ald21N {i : Int32} {n : Nat} (X : mX Γ p m c cc nL s args RX10 A) (hw : mW Γ.1 vwCl A L (rM Γ L x) H) (hi : i = nI n) (hn : n < 8) (hdg : decode cc pc = .ok (.iaload, 1)) (kk : W p l e R s m args below meth c H locs cells slots Q (F0 m (pc + 1) ls (.int (x.2.1 21 n) :: rest))) : W p l e R s m args below meth c H locs cells slots Q (F0 m pc ls (.int i :: .ref (L (.inr (0, 21, 0))) :: rest)) := by
  subst hi
  refine r_ald21 X hw (vp_in_nI hn (by decide)) hdg ?_
  rw [nI_clamp (by omega)]
  exact kk
theorem r_ast21N {i : Int32} {v : Int32} {n : Nat} (X : mX Γ p m c cc nL s args RX10 A) (hw : mW Γ.1 vwCl A L (rM Γ L x) H) (hS : va_S A s.heap H locs) (hi : i = nI n) (hn : n < 8) (hdg : decode cc pc = .ok (.iastore, 1)) (kk : ∀ (H1 : Heap) (locs1 : List Loc), mW Γ.1 vwCl A L (rM Γ L (sA x 21 n v)) H1 → va_S A s.heap H1 locs1 → W p l e R s m args below meth c H1 locs1 cells slots Q (F0 m (pc + 1) ls rest)) : W p l e R s m args below meth c H locs cells slots Q (F0 m pc ls (.int v :: .int i :: .ref (L (.inr (0, 21, 0))) :: rest)) := by
  subst hi
  refine r_ast21 X hw hS (vp_in_nI hn (by decide)) hdg ?_
  rw [nI_clamp (by omega)]
  exact kk
theorem r_ald24N {i : Int32} {n : Nat} (X : mX Γ p m c cc nL s args RX10 A) (hw : mW Γ.1 vwCl A L (rM Γ L x) H) (hi : i = nI n) (hn : n < 20) (hdg : decode cc pc = .ok (.iaload, 1)) (kk : W p l e R s m args below meth c H locs cells slots Q (F0 m (pc + 1) ls (.int (x.2.1 24 n) :: rest))) : W p l e R s m args below meth c H locs cells slots Q (F0 m pc ls (.int i :: .ref (L (.inr (0, 24, 0))) :: rest)) := by
  subst hi
  refine r_ald24 X hw (vp_in_nI hn (by decide)) hdg ?_
  rw [nI_clamp (by omega)]
  exact kk
theorem r_ast24N {i : Int32} {v : Int32} {n : Nat} (X : mX Γ p m c cc nL s args RX10 A) (hw : mW Γ.1 vwCl A L (rM Γ L x) H) (hS : va_S A s.heap H locs) (hi : i = nI n) (hn : n < 20) (hdg : decode cc pc = .ok (.iastore, 1)) (kk : ∀ (H1 : Heap) (locs1 : List Loc), mW Γ.1 vwCl A L (rM Γ L (sA x 24 n v)) H1 → va_S A s.heap H1 locs1 → W p l e R s m args below meth c H1 locs1 cells slots Q (F0 m (pc + 1) ls rest)) : W p l e R s m args below meth c H locs cells slots Q (F0 m pc ls (.int v :: .int i :: .ref (L (.inr (0, 24, 0))) :: rest)) := by
  subst hi
  refine r_ast24 X hw hS (vp_in_nI hn (by decide)) hdg ?_
  rw [nI_clamp (by omega)]
  exact kk
theorem r_ald25N {i : Int32} {n : Nat} (X : mX Γ p m c cc nL s args RX10 A) (hw : mW Γ.1 vwCl A L (rM Γ L x) H) (hi : i = nI n) (hn : n < 20) (hdg : decode cc pc = .ok (.iaload, 1)) (kk : W p l e R s m args below meth c H locs cells slots Q (F0 m (pc + 1) ls (.int (x.2.1 25 n) :: rest))) : W p l e R s m args below meth c H locs cells slots Q (F0 m pc ls (.int i :: .ref (L (.inr (0, 25, 0))) :: rest)) := by
  subst hi
  refine r_ald25 X hw (vp_in_nI hn (by decide)) hdg ?_
  rw [nI_clamp (by omega)]
  exact kk
theorem r_ast25N {i : Int32} {v : Int32} {n : Nat} (X : mX Γ p m c cc nL s args RX10 A) (hw : mW Γ.1 vwCl A L (rM Γ L x) H) (hS : va_S A s.heap H locs) (hi : i = nI n) (hn : n < 20) (hdg : decode cc pc = .ok (.iastore, 1)) (kk : ∀ (H1 : Heap) (locs1 : List Loc), mW Γ.1 vwCl A L (rM Γ L (sA x 25 n v)) H1 → va_S A s.heap H1 locs1 → W p l e R s m args below meth c H1 locs1 cells slots Q (F0 m (pc + 1) ls rest)) : W p l e R s m args below meth c H locs cells slots Q (F0 m pc ls (.int v :: .int i :: .ref (L (.inr (0, 25, 0))) :: rest)) := by
  subst hi
  refine r_ast25 X hw hS (vp_in_nI hn (by decide)) hdg ?_
  rw [nI_clamp (by omega)]
  exact kk
theorem r_ald26N {i : Int32} {n : Nat} (X : mX Γ p m c cc nL s args RX10 A) (hw : mW Γ.1 vwCl A L (rM Γ L x) H) (hi : i = nI n) (hn : n < 20) (hdg : decode cc pc = .ok (.iaload, 1)) (kk : W p l e R s m args below meth c H locs cells slots Q (F0 m (pc + 1) ls (.int (x.2.1 26 n) :: rest))) : W p l e R s m args below meth c H locs cells slots Q (F0 m pc ls (.int i :: .ref (L (.inr (0, 26, 0))) :: rest)) := by
  subst hi
  refine r_ald26 X hw (vp_in_nI hn (by decide)) hdg ?_
  rw [nI_clamp (by omega)]
  exact kk
theorem r_ast26N {i : Int32} {v : Int32} {n : Nat} (X : mX Γ p m c cc nL s args RX10 A) (hw : mW Γ.1 vwCl A L (rM Γ L x) H) (hS : va_S A s.heap H locs) (hi : i = nI n) (hn : n < 20) (hdg : decode cc pc = .ok (.iastore, 1)) (kk : ∀ (H1 : Heap) (locs1 : List Loc), mW Γ.1 vwCl A L (rM Γ L (sA x 26 n v)) H1 → va_S A s.heap H1 locs1 → W p l e R s m args below meth c H1 locs1 cells slots Q (F0 m (pc + 1) ls rest)) : W p l e R s m args below meth c H locs cells slots Q (F0 m pc ls (.int v :: .int i :: .ref (L (.inr (0, 26, 0))) :: rest)) := by
  subst hi
  refine r_ast26 X hw hS (vp_in_nI hn (by decide)) hdg ?_
  rw [nI_clamp (by omega)]
  exact kk
theorem r_ald27N {i : Int32} {n : Nat} (X : mX Γ p m c cc nL s args RX10 A) (hw : mW Γ.1 vwCl A L (rM Γ L x) H) (hi : i = nI n) (hn : n < 600) (hdg : decode cc pc = .ok (.laload, 1)) (kk : W p l e R s m args below meth c H locs cells slots Q (F0 m (pc + 1) ls (.long (x.2.2 27 n) :: rest))) : W p l e R s m args below meth c H locs cells slots Q (F0 m pc ls (.int i :: .ref (L (.inr (0, 27, 0))) :: rest)) := by
  subst hi
  refine r_ald27 X hw (vp_in_nI hn (by decide)) hdg ?_
  rw [nI_clamp (by omega)]
  exact kk
theorem r_ast27N {i : Int32} {v : Int64} {n : Nat} (X : mX Γ p m c cc nL s args RX10 A) (hw : mW Γ.1 vwCl A L (rM Γ L x) H) (hS : va_S A s.heap H locs) (hi : i = nI n) (hn : n < 600) (hdg : decode cc pc = .ok (.lastore, 1)) (kk : ∀ (H1 : Heap) (locs1 : List Loc), mW Γ.1 vwCl A L (rM Γ L (sJ x 27 n v)) H1 → va_S A s.heap H1 locs1 → W p l e R s m args below meth c H1 locs1 cells slots Q (F0 m (pc + 1) ls rest)) : W p l e R s m args below meth c H locs cells slots Q (F0 m pc ls (.long v :: .int i :: .ref (L (.inr (0, 27, 0))) :: rest)) := by
  subst hi
  refine r_ast27 X hw hS (vp_in_nI hn (by decide)) hdg ?_
  rw [nI_clamp (by omega)]
  exact kk
end RN
end
section
/-! THE REFERENCE'S PURE METHODS, as functions -/
def r_isIn (v a b : Int64) : Bool := !decide (v < a) && !decide (b < v)
def r_above (c : Int32) : Int32 := if c = 0 ∨ 5 < c then -1 else if c = 1 then 0 else if c = 4 then 2 else 1
def r_up : Nat → Int32 → Int32 → Bool
  | 0, x, d => decide (x = d)
  | n + 1, x, d => if x = -1 ∨ x = d then decide (x = d) else r_up n (r_above x) d
def r_under (c d : Int32) : Bool := if c = d ∨ d = 0 then true else if d = 6 then decide (c = 3 ∨ c = 4) else if d = 7 then decide (c = 4 ∨ c = 5) else r_up 5 c d
def r_isObj (k : Int32) : Bool := r_isIn k.toInt64 10 17
def r_isRow (k : Int32) : Bool := r_isIn k.toInt64 21 25
def r_isThing (k : Int32) : Bool := decide (k = 5) || (r_isObj k || r_isRow k)
def r_isKind (k : Int32) : Bool := r_isIn k.toInt64 0 5 || (r_isObj k || (r_isRow k || r_isIn k.toInt64 100 139))
def r_goes (x y : Int32) : Bool := if x = y ∨ y = 0 then true else if x = 4 then r_isThing y else if (r_isObj x && r_isObj y) = true then (decide (15 < y) || r_under (x - 10) (y - 10)) else if ((decide (x = 5) || r_isRow x) && r_isObj y) = true then (decide (y = 10) || decide (15 < y)) else (r_isRow x && (r_isRow y && r_under (x - 20) (y - 20)))
def r_com : Nat → Int32 → Int32 → Int32
  | 0, x, _ => x
  | n + 1, x, d => if r_under d x = true then x else r_com n (r_above x) d
def r_common (c d : Int32) : Int32 := r_com 5 (if 5 < c then 0 else c) d
def r_join3 (x y : Int32) : Int32 := if (r_isThing x && r_isThing y) = true then 10 else 0
def r_join2 (x y : Int32) : Int32 := if (r_isRow x && r_isRow y) = true then 20 + r_common (x - 20) (y - 20) else r_join3 x y
def r_join1 (x y : Int32) : Int32 := if (r_isObj x && r_isObj y) = true then 10 + r_common (x - 10) (y - 10) else r_join2 x y
def r_joined (x y : Int32) : Int32 := if x = y then x else if x = 4 ∧ r_isThing y = true then y else if y = 4 ∧ r_isThing x = true then x else r_join1 x y
def r_one (k : Int32) : Bool := decide (k = 1) || decide (4 ≤ k)
def r_rk (z : Int32) : Nat := if z = -1 then 0 else if z = 0 ∨ 5 < z then 1 else if z = 1 then 2 else if z = 4 then 4 else 3
theorem r_rk5 (z : Int32) : r_rk z ≤ 5 := by unfold r_rk; repeat (first | split | omega)
theorem r_rk_pos {z : Int32} (h : ¬ z = -1) : ¬ r_rk z ≤ 0 := by unfold r_rk; rw [if_neg h]; repeat (first | split | omega)
theorem r_rk_dn {z : Int32} {n : Nat} (h : ¬ z = -1) (hn : r_rk z ≤ n + 1) : r_rk (r_above z) ≤ n := by
  unfold r_rk at hn
  rw [if_neg h] at hn
  unfold r_above
  by_cases h1 : z = 0 ∨ 5 < z
  · rw [if_pos h1]; exact Nat.zero_le _
  · rw [if_neg h1] at hn ⊢
    by_cases h2 : z = 1
    · rw [if_pos h2] at hn ⊢
      have : r_rk 0 = 1 := by decide
      omega
    · rw [if_neg h2] at hn ⊢
      by_cases h3 : z = 4
      · rw [if_pos h3] at hn ⊢
        have : r_rk 2 = 3 := by decide
        omega
      · rw [if_neg h3] at hn ⊢
        have : r_rk 1 = 2 := by decide
        omega
def r_rk2 (z : Int32) : Nat := if z = 0 then 0 else if z = 1 then 1 else if z = 4 then 3 else if 5 < z then 4 else 2
theorem r_rk2_0 {z : Int32} (h : r_rk2 z ≤ 0) : z = 0 := by
  unfold r_rk2 at h
  by_cases h1 : z = 0
  · exact h1
  · rw [if_neg h1] at h
    exfalso
    revert h
    repeat (first | split | (intro h; omega))
theorem r_rk2_5 {z : Int32} (_ : z ≤ 5) : r_rk2 z ≤ 5 := by unfold r_rk2; repeat (first | split | omega)
theorem r_under0 (d : Int32) : r_under d 0 = true := by simp [r_under]
theorem r_rk2_dn {z d : Int32} {n : Nat} (h : r_under d z = false) (hn : r_rk2 z ≤ n + 1) : r_rk2 (r_above z) ≤ n := by
  have h0 : ¬ z = 0 := fun e => by rw [e, r_under0] at h; cases h
  unfold r_rk2 at hn
  rw [if_neg h0] at hn
  unfold r_above
  by_cases h1 : z = 0 ∨ 5 < z
  · rw [if_pos h1]
    have h5 : 5 < z := h1.resolve_left h0
    have e1 : ¬ z = 1 := fun e => by rw [e] at h5; exact absurd h5 (by decide)
    have e4 : ¬ z = 4 := fun e => by rw [e] at h5; exact absurd h5 (by decide)
    rw [if_neg e1, if_neg e4, if_pos h5] at hn
    have : r_rk2 (-1) = 2 := by decide
    omega
  · rw [if_neg h1]
    by_cases h2 : z = 1
    · rw [if_pos h2] at hn ⊢
      have : r_rk2 0 = 0 := by decide
      omega
    · rw [if_neg h2] at hn ⊢
      by_cases h3 : z = 4
      · rw [if_pos h3] at hn ⊢
        have : r_rk2 2 = 2 := by decide
        omega
      · rw [if_neg h3] at hn ⊢
        rw [if_neg (fun q => h1 (Or.inr q))] at hn
        have : r_rk2 1 = 1 := by decide
        omega
theorem s_X10_isIn : mSm yX10_isIn cX10_isIn 6 (some .boolean) 3 := ⟨cd_X10_isIn, st_X10_isIn, ini_X10, by decide, by decide, by decide +kernel⟩
set_option maxHeartbeats 4000000 in
set_option maxRecDepth 100000 in
theorem k_X10_isIn (Γ : mG) (l : Launch) (L : mI → Nat) (M : mM) (v : Int64) (a : Int64) (b : Int64) : mMet Γ l yX10_isIn cX10_isIn 6 (some .boolean) { frames := 0, cells := 0, slots := 0, locals := 0 } [.long v, .long a, .long b] L M (mQi Γ (fun r L1 M1 => r = bI (r_isIn v a b) ∧ L1 = L ∧ M1 = M)) := by
  refine m_start (by decide) (Nat.le_of_ble_eq_true rfl) ?_
  intro p e s m args below meth c A ls X hr hlk hnm hw hS hl
  have hx := X.1.1
  have hb := X.1.2.1
  have hl : lv_has ls 6 [(0, .long v), (2, .long a), (4, .long b)] := hl
  refine lv_lload_n hx hb dX10_isIn_0 rfl (lv_at hl 0 rfl) ?_
  refine lv_lload_n hx hb dX10_isIn_1 rfl (lv_at hl 1 rfl) ?_
  refine m_lcmp_lt (tgt := 17) hx hb dX10_isIn_2 dX10_isIn_3 (by decide) (fun c_1 => ?_) (fun c_1 => ?_)
  · skip
    refine lv_iconst (v := 0) hx hb dX10_isIn_17 (by decide) ?_
    exact m_zret (b := r_isIn v a b) X hr hlk hw hS (Nat.zero_le _) (Nat.zero_le _) (by clear hb hx hl hS hw hnm hlk hr X; first | rfl | (simp_all [bI, r_isIn]; done) | (simp_all [bI, r_isIn]; rfl)) (⟨rfl, rfl, rfl⟩) dX10_isIn_18
  · skip
    refine lv_lload_n hx hb dX10_isIn_6 rfl (lv_at hl 0 rfl) ?_
    refine lv_lload hx hb dX10_isIn_7 (lv_at hl 2 rfl) ?_
    refine m_lcmp_gt (tgt := 17) hx hb dX10_isIn_9 dX10_isIn_10 (by decide) (fun c_2 => ?_) (fun c_2 => ?_)
    · skip
      refine lv_iconst (v := 0) hx hb dX10_isIn_17 (by decide) ?_
      exact m_zret (b := r_isIn v a b) X hr hlk hw hS (Nat.zero_le _) (Nat.zero_le _) (by clear hb hx hl hS hw hnm hlk hr X; first | rfl | (simp_all [bI, r_isIn]; done) | (simp_all [bI, r_isIn]; rfl)) (⟨rfl, rfl, rfl⟩) dX10_isIn_18
    · skip
      refine lv_iconst (v := 1) hx hb dX10_isIn_13 (by decide) ?_
      refine lv_goto (tgt := 18) hx hb dX10_isIn_14 (by decide) ?_
      exact m_zret (b := r_isIn v a b) X hr hlk hw hS (Nat.zero_le _) (Nat.zero_le _) (by clear hb hx hl hS hw hnm hlk hr X; first | rfl | (simp_all [bI, r_isIn]; done) | (simp_all [bI, r_isIn]; rfl)) (⟨rfl, rfl, rfl⟩) dX10_isIn_18
theorem s_X10_above : mSm yX10_above cX10_above 1 (some .int) 1 := ⟨cd_X10_above, st_X10_above, ini_X10, by decide, by decide, by decide +kernel⟩
set_option maxHeartbeats 4000000 in
set_option maxRecDepth 100000 in
theorem k_X10_above (Γ : mG) (l : Launch) (L : mI → Nat) (M : mM) (a : Int32) : mMet Γ l yX10_above cX10_above 1 (some .int) { frames := 0, cells := 0, slots := 0, locals := 0 } [.int a] L M (mQi Γ (fun r L1 M1 => r = r_above a ∧ L1 = L ∧ M1 = M)) := by
  refine m_start (by decide) (Nat.le_of_ble_eq_true rfl) ?_
  intro p e s m args below meth c A ls X hr hlk hnm hw hS hl
  have hx := X.1.1
  have hb := X.1.2.1
  have hl : lv_has ls 1 [(0, .int a)] := hl
  refine lv_iload_n hx hb dX10_above_0 rfl (lv_at hl 0 rfl) ?_
  refine lv_if_eq (tgt := 9) hx hb dX10_above_1 (by decide) (fun c_1 => ?_) (fun c_1 => ?_)
  · skip
    refine lv_iconst (v := (-1)) hx hb dX10_above_9 (by decide) ?_
    refine lv_goto (tgt := 32) hx hb dX10_above_10 (by decide) ?_
    exact m_iret X hr hlk hw hS (Nat.zero_le _) (Nat.zero_le _) (⟨by clear hb hx hl hS hw hnm hlk hr X; first | rfl | (simp_all [bI, r_above]; done) | (simp_all [bI, r_above]; rfl), rfl, rfl⟩) dX10_above_32
  · skip
    refine lv_iload_n hx hb dX10_above_4 rfl (lv_at hl 0 rfl) ?_
    refine lv_iconst (v := 5) hx hb dX10_above_5 (by decide) ?_
    refine lv_icmp_le (tgt := 13) hx hb dX10_above_6 (by decide) (fun c_2 => ?_) (fun c_2 => ?_)
    · skip
      refine lv_iload_n hx hb dX10_above_13 rfl (lv_at hl 0 rfl) ?_
      refine lv_iconst (v := 1) hx hb dX10_above_14 (by decide) ?_
      refine lv_icmp_ne (tgt := 22) hx hb dX10_above_15 (by decide) (fun c_3 => ?_) (fun c_3 => ?_)
      · skip
        refine lv_iload_n hx hb dX10_above_22 rfl (lv_at hl 0 rfl) ?_
        refine lv_iconst (v := 4) hx hb dX10_above_23 (by decide) ?_
        refine lv_icmp_ne (tgt := 31) hx hb dX10_above_24 (by decide) (fun c_4 => ?_) (fun c_4 => ?_)
        · skip
          refine lv_iconst (v := 1) hx hb dX10_above_31 (by decide) ?_
          exact m_iret X hr hlk hw hS (Nat.zero_le _) (Nat.zero_le _) (⟨by clear hb hx hl hS hw hnm hlk hr X; first | rfl | (simp_all [bI, r_above]; done) | (simp_all [bI, r_above]; rfl), rfl, rfl⟩) dX10_above_32
        · skip
          refine lv_iconst (v := 2) hx hb dX10_above_27 (by decide) ?_
          refine lv_goto (tgt := 32) hx hb dX10_above_28 (by decide) ?_
          exact m_iret X hr hlk hw hS (Nat.zero_le _) (Nat.zero_le _) (⟨by clear hb hx hl hS hw hnm hlk hr X; first | rfl | (simp_all [bI, r_above]; done) | (simp_all [bI, r_above]; rfl), rfl, rfl⟩) dX10_above_32
      · skip
        refine lv_iconst (v := 0) hx hb dX10_above_18 (by decide) ?_
        refine lv_goto (tgt := 32) hx hb dX10_above_19 (by decide) ?_
        exact m_iret X hr hlk hw hS (Nat.zero_le _) (Nat.zero_le _) (⟨by clear hb hx hl hS hw hnm hlk hr X; first | rfl | (simp_all [bI, r_above]; done) | (simp_all [bI, r_above]; rfl), rfl, rfl⟩) dX10_above_32
    · skip
      refine lv_iconst (v := (-1)) hx hb dX10_above_9 (by decide) ?_
      refine lv_goto (tgt := 32) hx hb dX10_above_10 (by decide) ?_
      exact m_iret X hr hlk hw hS (Nat.zero_le _) (Nat.zero_le _) (⟨by clear hb hx hl hS hw hnm hlk hr X; first | rfl | (simp_all [bI, r_above]; done) | (simp_all [bI, r_above]; rfl), rfl, rfl⟩) dX10_above_32
theorem s_X10_isUnder : mSm yX10_isUnder cX10_isUnder 3 (some .boolean) 2 := ⟨cd_X10_isUnder, st_X10_isUnder, ini_X10, by decide, by decide, by decide +kernel⟩
set_option maxHeartbeats 4000000 in
set_option maxRecDepth 100000 in
theorem k_X10_isUnder (Γ : mG) (l : Launch) (L : mI → Nat) (M : mM) (a : Int32) (b : Int32) : mMet Γ l yX10_isUnder cX10_isUnder 3 (some .boolean) { frames := 1, cells := 0, slots := 0, locals := 20 } [.int a, .int b] L M (mQi Γ (fun r L1 M1 => r = bI (r_under a b) ∧ L1 = L ∧ M1 = M)) := by
  refine m_start (by decide) (Nat.le_of_ble_eq_true rfl) ?_
  intro p e s m args below meth c A ls X hr hlk hnm hw hS hl
  have hx := X.1.1
  have hb := X.1.2.1
  have hl : lv_has ls 3 [(0, .int a), (1, .int b)] := hl
  have KL : ∀ (n : Nat) (z : Int32) (H : Heap) (locs : List Loc) (ls : Array Slot), r_rk z ≤ n → r_under a b = r_up n z b → mW Γ.1 vwCl A L M H → va_S A s.heap H locs → lv_has ls 3 [(2, .int z), (0, .int a), (1, .int b)] → W p l e { frames := 1, cells := 0, slots := 0, locals := 20 } s m args below meth c H locs 0 0 (MQ below (mQi Γ (fun r L1 M1 => r = bI (r_under a b) ∧ L1 = L ∧ M1 = M) A) args s 0 0 A) (F0 m 57 ls []) := by
    intro n
    induction n with
    | zero =>
      intro z H locs ls hn he hw hS hl
      refine lv_iload_n hx hb dX10_isUnder_57 rfl (lv_at hl 0 rfl) ?_
      refine lv_iconst (v := (-1)) hx hb dX10_isUnder_58 (by decide) ?_
      refine lv_icmp_eq (tgt := 75) hx hb dX10_isUnder_59 (by decide) (fun c_1 => ?_) (fun c_1 => ?_)
      · skip
        refine lv_iload_n hx hb dX10_isUnder_75 rfl (lv_at hl 0 rfl) ?_
        refine lv_iload_n hx hb dX10_isUnder_76 rfl (lv_at hl 2 rfl) ?_
        refine lv_icmp_ne (tgt := 84) hx hb dX10_isUnder_77 (by decide) (fun c_2 => ?_) (fun c_2 => ?_)
        · skip
          refine lv_iconst (v := 0) hx hb dX10_isUnder_84 (by decide) ?_
          exact m_zret (b := r_under a b) X hr hlk hw hS (Nat.zero_le _) (Nat.zero_le _) (by rw [he]; clear he hb hx hl hS hw hnm hlk hr X; first | rfl | (simp_all [bI, r_up]; done) | (simp_all [bI, r_up]; rfl)) (⟨rfl, rfl, rfl⟩) dX10_isUnder_85
        · skip
          refine lv_iconst (v := 1) hx hb dX10_isUnder_80 (by decide) ?_
          refine lv_goto (tgt := 85) hx hb dX10_isUnder_81 (by decide) ?_
          exact m_zret (b := r_under a b) X hr hlk hw hS (Nat.zero_le _) (Nat.zero_le _) (by rw [he]; clear he hb hx hl hS hw hnm hlk hr X; first | rfl | (simp_all [bI, r_up]; done) | (simp_all [bI, r_up]; rfl)) (⟨rfl, rfl, rfl⟩) dX10_isUnder_85
      · skip
        refine lv_iload_n hx hb dX10_isUnder_62 rfl (lv_at hl 0 rfl) ?_
        refine lv_iload_n hx hb dX10_isUnder_63 rfl (lv_at hl 2 rfl) ?_
        refine lv_icmp_eq (tgt := 75) hx hb dX10_isUnder_64 (by decide) (fun c_3 => ?_) (fun c_3 => ?_)
        · skip
          refine lv_iload_n hx hb dX10_isUnder_75 rfl (lv_at hl 0 rfl) ?_
          refine lv_iload_n hx hb dX10_isUnder_76 rfl (lv_at hl 2 rfl) ?_
          refine lv_icmp_ne (tgt := 84) hx hb dX10_isUnder_77 (by decide) (fun c_4 => ?_) (fun c_4 => ?_)
          · skip
            refine lv_iconst (v := 0) hx hb dX10_isUnder_84 (by decide) ?_
            exact m_zret (b := r_under a b) X hr hlk hw hS (Nat.zero_le _) (Nat.zero_le _) (by rw [he]; clear he hb hx hl hS hw hnm hlk hr X; first | rfl | (simp_all [bI, r_up]; done) | (simp_all [bI, r_up]; rfl)) (⟨rfl, rfl, rfl⟩) dX10_isUnder_85
          · skip
            refine lv_iconst (v := 1) hx hb dX10_isUnder_80 (by decide) ?_
            refine lv_goto (tgt := 85) hx hb dX10_isUnder_81 (by decide) ?_
            exact m_zret (b := r_under a b) X hr hlk hw hS (Nat.zero_le _) (Nat.zero_le _) (by rw [he]; clear he hb hx hl hS hw hnm hlk hr X; first | rfl | (simp_all [bI, r_up]; done) | (simp_all [bI, r_up]; rfl)) (⟨rfl, rfl, rfl⟩) dX10_isUnder_85
        · skip
          refine lv_iload_n hx hb dX10_isUnder_67 rfl (lv_at hl 0 rfl) ?_
          refine m_calli (m_runS (As := [.int z]) (rest := []) X (k_X10_above Γ l L (M) z) s_X10_above ml_X10_83 hw hS rfl hl.1 ⟨Nat.le_of_ble_eq_true rfl, Nat.le_of_ble_eq_true rfl⟩ (Nat.le_of_ble_eq_true rfl) ⟨Nat.le_of_ble_eq_true rfl, Nat.le_of_ble_eq_true rfl⟩ dX10_isUnder_68) hS (fun r_6 L1 M1 H locs hp_5 hw hS => ?_)
          obtain ⟨rfl, e1, e2⟩ := hp_5
          rw [e1, e2] at hw; clear e1 e2
          refine lv_istore_n (lv' := [(2, .int (r_above z)), (0, .int a), (1, .int b)]) hx hb dX10_isUnder_71 rfl hl (by decide) rfl (fun ls hl => ?_)
          refine lv_goto (tgt := 57) hx hb dX10_isUnder_72 (by decide) ?_
          exact absurd hn (r_rk_pos c_1)
    | succ n ih =>
      intro z H locs ls hn he hw hS hl
      refine lv_iload_n hx hb dX10_isUnder_57 rfl (lv_at hl 0 rfl) ?_
      refine lv_iconst (v := (-1)) hx hb dX10_isUnder_58 (by decide) ?_
      refine lv_icmp_eq (tgt := 75) hx hb dX10_isUnder_59 (by decide) (fun c_7 => ?_) (fun c_7 => ?_)
      · skip
        refine lv_iload_n hx hb dX10_isUnder_75 rfl (lv_at hl 0 rfl) ?_
        refine lv_iload_n hx hb dX10_isUnder_76 rfl (lv_at hl 2 rfl) ?_
        refine lv_icmp_ne (tgt := 84) hx hb dX10_isUnder_77 (by decide) (fun c_8 => ?_) (fun c_8 => ?_)
        · skip
          refine lv_iconst (v := 0) hx hb dX10_isUnder_84 (by decide) ?_
          exact m_zret (b := r_under a b) X hr hlk hw hS (Nat.zero_le _) (Nat.zero_le _) (by rw [he]; clear he hb hx hl hS hw hnm hlk hr X; first | rfl | (simp_all [bI, r_up]; done) | (simp_all [bI, r_up]; rfl)) (⟨rfl, rfl, rfl⟩) dX10_isUnder_85
        · skip
          refine lv_iconst (v := 1) hx hb dX10_isUnder_80 (by decide) ?_
          refine lv_goto (tgt := 85) hx hb dX10_isUnder_81 (by decide) ?_
          exact m_zret (b := r_under a b) X hr hlk hw hS (Nat.zero_le _) (Nat.zero_le _) (by rw [he]; clear he hb hx hl hS hw hnm hlk hr X; first | rfl | (simp_all [bI, r_up]; done) | (simp_all [bI, r_up]; rfl)) (⟨rfl, rfl, rfl⟩) dX10_isUnder_85
      · skip
        refine lv_iload_n hx hb dX10_isUnder_62 rfl (lv_at hl 0 rfl) ?_
        refine lv_iload_n hx hb dX10_isUnder_63 rfl (lv_at hl 2 rfl) ?_
        refine lv_icmp_eq (tgt := 75) hx hb dX10_isUnder_64 (by decide) (fun c_9 => ?_) (fun c_9 => ?_)
        · skip
          refine lv_iload_n hx hb dX10_isUnder_75 rfl (lv_at hl 0 rfl) ?_
          refine lv_iload_n hx hb dX10_isUnder_76 rfl (lv_at hl 2 rfl) ?_
          refine lv_icmp_ne (tgt := 84) hx hb dX10_isUnder_77 (by decide) (fun c_10 => ?_) (fun c_10 => ?_)
          · skip
            refine lv_iconst (v := 0) hx hb dX10_isUnder_84 (by decide) ?_
            exact m_zret (b := r_under a b) X hr hlk hw hS (Nat.zero_le _) (Nat.zero_le _) (by rw [he]; clear he hb hx hl hS hw hnm hlk hr X; first | rfl | (simp_all [bI, r_up]; done) | (simp_all [bI, r_up]; rfl)) (⟨rfl, rfl, rfl⟩) dX10_isUnder_85
          · skip
            refine lv_iconst (v := 1) hx hb dX10_isUnder_80 (by decide) ?_
            refine lv_goto (tgt := 85) hx hb dX10_isUnder_81 (by decide) ?_
            exact m_zret (b := r_under a b) X hr hlk hw hS (Nat.zero_le _) (Nat.zero_le _) (by rw [he]; clear he hb hx hl hS hw hnm hlk hr X; first | rfl | (simp_all [bI, r_up]; done) | (simp_all [bI, r_up]; rfl)) (⟨rfl, rfl, rfl⟩) dX10_isUnder_85
        · skip
          refine lv_iload_n hx hb dX10_isUnder_67 rfl (lv_at hl 0 rfl) ?_
          refine m_calli (m_runS (As := [.int z]) (rest := []) X (k_X10_above Γ l L (M) z) s_X10_above ml_X10_83 hw hS rfl hl.1 ⟨Nat.le_of_ble_eq_true rfl, Nat.le_of_ble_eq_true rfl⟩ (Nat.le_of_ble_eq_true rfl) ⟨Nat.le_of_ble_eq_true rfl, Nat.le_of_ble_eq_true rfl⟩ dX10_isUnder_68) hS (fun r_12 L1 M1 H locs hp_11 hw hS => ?_)
          obtain ⟨rfl, e1, e2⟩ := hp_11
          rw [e1, e2] at hw; clear e1 e2
          refine lv_istore_n (lv' := [(2, .int (r_above z)), (0, .int a), (1, .int b)]) hx hb dX10_isUnder_71 rfl hl (by decide) rfl (fun ls hl => ?_)
          refine lv_goto (tgt := 57) hx hb dX10_isUnder_72 (by decide) ?_
          exact ih _ H locs ls (r_rk_dn c_7 hn) (by rw [he]; clear hb hx hl hS hw hnm hlk hr X he ih; simp_all [r_up]) hw hS hl
  refine lv_iload_n hx hb dX10_isUnder_0 rfl (lv_at hl 0 rfl) ?_
  refine lv_iload_n hx hb dX10_isUnder_1 rfl (lv_at hl 1 rfl) ?_
  refine lv_icmp_eq (tgt := 9) hx hb dX10_isUnder_2 (by decide) (fun c_13 => ?_) (fun c_13 => ?_)
  · skip
    refine lv_iconst (v := 1) hx hb dX10_isUnder_9 (by decide) ?_
    exact m_zret (b := r_under a b) X hr hlk hw hS (Nat.zero_le _) (Nat.zero_le _) (by clear KL hb hx hl hS hw hnm hlk hr X; first | rfl | (simp_all [bI, r_under]; done) | (simp_all [bI, r_under]; rfl)) (⟨rfl, rfl, rfl⟩) dX10_isUnder_10
  · skip
    refine lv_iload_n hx hb dX10_isUnder_5 rfl (lv_at hl 1 rfl) ?_
    refine lv_if_ne (tgt := 11) hx hb dX10_isUnder_6 (by decide) (fun c_14 => ?_) (fun c_14 => ?_)
    · skip
      refine lv_iload_n hx hb dX10_isUnder_11 rfl (lv_at hl 1 rfl) ?_
      refine lv_bipush (v := 6) hx hb dX10_isUnder_12 (by decide) ?_
      refine lv_icmp_ne (tgt := 33) hx hb dX10_isUnder_14 (by decide) (fun c_15 => ?_) (fun c_15 => ?_)
      · skip
        refine lv_iload_n hx hb dX10_isUnder_33 rfl (lv_at hl 1 rfl) ?_
        refine lv_bipush (v := 7) hx hb dX10_isUnder_34 (by decide) ?_
        refine lv_icmp_ne (tgt := 55) hx hb dX10_isUnder_36 (by decide) (fun c_16 => ?_) (fun c_16 => ?_)
        · skip
          refine lv_iload_n hx hb dX10_isUnder_55 rfl (lv_at hl 0 rfl) ?_
          refine lv_istore_n (lv' := [(2, .int a), (0, .int a), (1, .int b)]) hx hb dX10_isUnder_56 rfl hl (by decide) rfl (fun ls hl => ?_)
          exact KL 5 _ _ _ ls (r_rk5 _) (by clear KL hb hx hl hS hw hnm hlk hr X; simp_all [r_under]) hw hS hl
        · skip
          refine lv_iload_n hx hb dX10_isUnder_39 rfl (lv_at hl 0 rfl) ?_
          refine lv_iconst (v := 4) hx hb dX10_isUnder_40 (by decide) ?_
          refine lv_icmp_eq (tgt := 49) hx hb dX10_isUnder_41 (by decide) (fun c_17 => ?_) (fun c_17 => ?_)
          · skip
            refine lv_iconst (v := 1) hx hb dX10_isUnder_49 (by decide) ?_
            refine lv_goto (tgt := 54) hx hb dX10_isUnder_50 (by decide) ?_
            exact m_zret (b := r_under a b) X hr hlk hw hS (Nat.zero_le _) (Nat.zero_le _) (by clear KL hb hx hl hS hw hnm hlk hr X; first | rfl | (simp_all [bI, r_under]; done) | (simp_all [bI, r_under]; rfl)) (⟨rfl, rfl, rfl⟩) dX10_isUnder_54
          · skip
            refine lv_iload_n hx hb dX10_isUnder_44 rfl (lv_at hl 0 rfl) ?_
            refine lv_iconst (v := 5) hx hb dX10_isUnder_45 (by decide) ?_
            refine lv_icmp_ne (tgt := 53) hx hb dX10_isUnder_46 (by decide) (fun c_18 => ?_) (fun c_18 => ?_)
            · skip
              refine lv_iconst (v := 0) hx hb dX10_isUnder_53 (by decide) ?_
              exact m_zret (b := r_under a b) X hr hlk hw hS (Nat.zero_le _) (Nat.zero_le _) (by clear KL hb hx hl hS hw hnm hlk hr X; first | rfl | (simp_all [bI, r_under]; done) | (simp_all [bI, r_under]; rfl)) (⟨rfl, rfl, rfl⟩) dX10_isUnder_54
            · skip
              refine lv_iconst (v := 1) hx hb dX10_isUnder_49 (by decide) ?_
              refine lv_goto (tgt := 54) hx hb dX10_isUnder_50 (by decide) ?_
              exact m_zret (b := r_under a b) X hr hlk hw hS (Nat.zero_le _) (Nat.zero_le _) (by clear KL hb hx hl hS hw hnm hlk hr X; first | rfl | (simp_all [bI, r_under]; done) | (simp_all [bI, r_under]; rfl)) (⟨rfl, rfl, rfl⟩) dX10_isUnder_54
      · skip
        refine lv_iload_n hx hb dX10_isUnder_17 rfl (lv_at hl 0 rfl) ?_
        refine lv_iconst (v := 3) hx hb dX10_isUnder_18 (by decide) ?_
        refine lv_icmp_eq (tgt := 27) hx hb dX10_isUnder_19 (by decide) (fun c_19 => ?_) (fun c_19 => ?_)
        · skip
          refine lv_iconst (v := 1) hx hb dX10_isUnder_27 (by decide) ?_
          refine lv_goto (tgt := 32) hx hb dX10_isUnder_28 (by decide) ?_
          exact m_zret (b := r_under a b) X hr hlk hw hS (Nat.zero_le _) (Nat.zero_le _) (by clear KL hb hx hl hS hw hnm hlk hr X; first | rfl | (simp_all [bI, r_under]; done) | (simp_all [bI, r_under]; rfl)) (⟨rfl, rfl, rfl⟩) dX10_isUnder_32
        · skip
          refine lv_iload_n hx hb dX10_isUnder_22 rfl (lv_at hl 0 rfl) ?_
          refine lv_iconst (v := 4) hx hb dX10_isUnder_23 (by decide) ?_
          refine lv_icmp_ne (tgt := 31) hx hb dX10_isUnder_24 (by decide) (fun c_20 => ?_) (fun c_20 => ?_)
          · skip
            refine lv_iconst (v := 0) hx hb dX10_isUnder_31 (by decide) ?_
            exact m_zret (b := r_under a b) X hr hlk hw hS (Nat.zero_le _) (Nat.zero_le _) (by clear KL hb hx hl hS hw hnm hlk hr X; first | rfl | (simp_all [bI, r_under]; done) | (simp_all [bI, r_under]; rfl)) (⟨rfl, rfl, rfl⟩) dX10_isUnder_32
          · skip
            refine lv_iconst (v := 1) hx hb dX10_isUnder_27 (by decide) ?_
            refine lv_goto (tgt := 32) hx hb dX10_isUnder_28 (by decide) ?_
            exact m_zret (b := r_under a b) X hr hlk hw hS (Nat.zero_le _) (Nat.zero_le _) (by clear KL hb hx hl hS hw hnm hlk hr X; first | rfl | (simp_all [bI, r_under]; done) | (simp_all [bI, r_under]; rfl)) (⟨rfl, rfl, rfl⟩) dX10_isUnder_32
    · skip
      refine lv_iconst (v := 1) hx hb dX10_isUnder_9 (by decide) ?_
      exact m_zret (b := r_under a b) X hr hlk hw hS (Nat.zero_le _) (Nat.zero_le _) (by clear KL hb hx hl hS hw hnm hlk hr X; first | rfl | (simp_all [bI, r_under]; done) | (simp_all [bI, r_under]; rfl)) (⟨rfl, rfl, rfl⟩) dX10_isUnder_10
theorem s_X10_isObject : mSm yX10_isObject cX10_isObject 1 (some .boolean) 1 := ⟨cd_X10_isObject, st_X10_isObject, ini_X10, by decide, by decide, by decide +kernel⟩
set_option maxHeartbeats 4000000 in
set_option maxRecDepth 100000 in
theorem k_X10_isObject (Γ : mG) (l : Launch) (L : mI → Nat) (M : mM) (a : Int32) : mMet Γ l yX10_isObject cX10_isObject 1 (some .boolean) { frames := 1, cells := 0, slots := 0, locals := 25 } [.int a] L M (mQi Γ (fun r L1 M1 => r = bI (r_isObj a) ∧ L1 = L ∧ M1 = M)) := by
  refine m_start (by decide) (Nat.le_of_ble_eq_true rfl) ?_
  intro p e s m args below meth c A ls X hr hlk hnm hw hS hl
  have hx := X.1.1
  have hb := X.1.2.1
  have hl : lv_has ls 1 [(0, .int a)] := hl
  refine lv_iload_n hx hb dX10_isObject_0 rfl (lv_at hl 0 rfl) ?_
  refine lv_i2l (v := a.toInt64) hx hb dX10_isObject_1 rfl ?_
  refine lv_ldc2 (v := (10)) hx hb X.1.2.2.2.1 (X.1.2.2.2.2 _ kl_X10_87) dX10_isObject_2 ?_
  refine lv_ldc2 (v := (17)) hx hb X.1.2.2.2.1 (X.1.2.2.2.2 _ kl_X10_89) dX10_isObject_5 ?_
  refine m_calli (m_runS (As := [.long a.toInt64, .long (10), .long (17)]) (rest := []) X (k_X10_isIn Γ l L (M) a.toInt64 (10) (17)) s_X10_isIn ml_X10_79 hw hS rfl hl.1 ⟨Nat.le_of_ble_eq_true rfl, Nat.le_of_ble_eq_true rfl⟩ (Nat.le_of_ble_eq_true rfl) ⟨Nat.le_of_ble_eq_true rfl, Nat.le_of_ble_eq_true rfl⟩ dX10_isObject_8) hS (fun r_2 L1 M1 H locs hp_1 hw hS => ?_)
  obtain ⟨rfl, e1, e2⟩ := hp_1
  rw [e1, e2] at hw; clear e1 e2
  exact m_zret (b := r_isObj a) X hr hlk hw hS (Nat.zero_le _) (Nat.zero_le _) (by clear hb hx hl hS hw hnm hlk hr X; first | rfl | (simp_all [bI, r_isObj]; done) | (simp_all [bI, r_isObj]; rfl)) (⟨rfl, rfl, rfl⟩) dX10_isObject_11
theorem s_X10_isRow : mSm yX10_isRow cX10_isRow 1 (some .boolean) 1 := ⟨cd_X10_isRow, st_X10_isRow, ini_X10, by decide, by decide, by decide +kernel⟩
set_option maxHeartbeats 4000000 in
set_option maxRecDepth 100000 in
theorem k_X10_isRow (Γ : mG) (l : Launch) (L : mI → Nat) (M : mM) (a : Int32) : mMet Γ l yX10_isRow cX10_isRow 1 (some .boolean) { frames := 1, cells := 0, slots := 0, locals := 25 } [.int a] L M (mQi Γ (fun r L1 M1 => r = bI (r_isRow a) ∧ L1 = L ∧ M1 = M)) := by
  refine m_start (by decide) (Nat.le_of_ble_eq_true rfl) ?_
  intro p e s m args below meth c A ls X hr hlk hnm hw hS hl
  have hx := X.1.1
  have hb := X.1.2.1
  have hl : lv_has ls 1 [(0, .int a)] := hl
  refine lv_iload_n hx hb dX10_isRow_0 rfl (lv_at hl 0 rfl) ?_
  refine lv_i2l (v := a.toInt64) hx hb dX10_isRow_1 rfl ?_
  refine lv_ldc2 (v := (21)) hx hb X.1.2.2.2.1 (X.1.2.2.2.2 _ kl_X10_91) dX10_isRow_2 ?_
  refine lv_ldc2 (v := (25)) hx hb X.1.2.2.2.1 (X.1.2.2.2.2 _ kl_X10_93) dX10_isRow_5 ?_
  refine m_calli (m_runS (As := [.long a.toInt64, .long (21), .long (25)]) (rest := []) X (k_X10_isIn Γ l L (M) a.toInt64 (21) (25)) s_X10_isIn ml_X10_79 hw hS rfl hl.1 ⟨Nat.le_of_ble_eq_true rfl, Nat.le_of_ble_eq_true rfl⟩ (Nat.le_of_ble_eq_true rfl) ⟨Nat.le_of_ble_eq_true rfl, Nat.le_of_ble_eq_true rfl⟩ dX10_isRow_8) hS (fun r_2 L1 M1 H locs hp_1 hw hS => ?_)
  obtain ⟨rfl, e1, e2⟩ := hp_1
  rw [e1, e2] at hw; clear e1 e2
  exact m_zret (b := r_isRow a) X hr hlk hw hS (Nat.zero_le _) (Nat.zero_le _) (by clear hb hx hl hS hw hnm hlk hr X; first | rfl | (simp_all [bI, r_isRow]; done) | (simp_all [bI, r_isRow]; rfl)) (⟨rfl, rfl, rfl⟩) dX10_isRow_11
theorem s_X10_isThing : mSm yX10_isThing cX10_isThing 1 (some .boolean) 1 := ⟨cd_X10_isThing, st_X10_isThing, ini_X10, by decide, by decide, by decide +kernel⟩
set_option maxHeartbeats 4000000 in
set_option maxRecDepth 100000 in
theorem k_X10_isThing (Γ : mG) (l : Launch) (L : mI → Nat) (M : mM) (a : Int32) : mMet Γ l yX10_isThing cX10_isThing 1 (some .boolean) { frames := 2, cells := 0, slots := 0, locals := 45 } [.int a] L M (mQi Γ (fun r L1 M1 => r = bI (r_isThing a) ∧ L1 = L ∧ M1 = M)) := by
  refine m_start (by decide) (Nat.le_of_ble_eq_true rfl) ?_
  intro p e s m args below meth c A ls X hr hlk hnm hw hS hl
  have hx := X.1.1
  have hb := X.1.2.1
  have hl : lv_has ls 1 [(0, .int a)] := hl
  refine lv_iload_n hx hb dX10_isThing_0 rfl (lv_at hl 0 rfl) ?_
  refine lv_iconst (v := 5) hx hb dX10_isThing_1 (by decide) ?_
  refine lv_icmp_eq (tgt := 19) hx hb dX10_isThing_2 (by decide) (fun c_1 => ?_) (fun c_1 => ?_)
  · skip
    refine lv_iconst (v := 1) hx hb dX10_isThing_19 (by decide) ?_
    refine lv_goto (tgt := 24) hx hb dX10_isThing_20 (by decide) ?_
    exact m_zret (b := r_isThing a) X hr hlk hw hS (Nat.zero_le _) (Nat.zero_le _) (by clear hb hx hl hS hw hnm hlk hr X; first | rfl | (simp_all [bI, r_isThing]; done) | (simp_all [bI, r_isThing]; rfl)) (⟨rfl, rfl, rfl⟩) dX10_isThing_24
  · skip
    refine lv_iload_n hx hb dX10_isThing_5 rfl (lv_at hl 0 rfl) ?_
    refine m_calli (m_runS (As := [.int a]) (rest := []) X (k_X10_isObject Γ l L (M) a) s_X10_isObject ml_X10_95 hw hS rfl hl.1 ⟨Nat.le_of_ble_eq_true rfl, Nat.le_of_ble_eq_true rfl⟩ (Nat.le_of_ble_eq_true rfl) ⟨Nat.le_of_ble_eq_true rfl, Nat.le_of_ble_eq_true rfl⟩ dX10_isThing_6) hS (fun r_3 L1 M1 H locs hp_2 hw hS => ?_)
    obtain ⟨rfl, e1, e2⟩ := hp_2
    rw [e1, e2] at hw; clear e1 e2
    refine lv_if_ne (tgt := 19) hx hb dX10_isThing_9 (by decide) (fun c_4 => ?_) (fun c_4 => ?_)
    · skip
      have c_4 := bI_t c_4
      refine lv_iconst (v := 1) hx hb dX10_isThing_19 (by decide) ?_
      refine lv_goto (tgt := 24) hx hb dX10_isThing_20 (by decide) ?_
      exact m_zret (b := r_isThing a) X hr hlk hw hS (Nat.zero_le _) (Nat.zero_le _) (by clear hb hx hl hS hw hnm hlk hr X; first | rfl | (simp_all [bI, r_isThing]; done) | (simp_all [bI, r_isThing]; rfl)) (⟨rfl, rfl, rfl⟩) dX10_isThing_24
    · skip
      have c_4 := bI_f c_4
      refine lv_iload_n hx hb dX10_isThing_12 rfl (lv_at hl 0 rfl) ?_
      refine m_calli (m_runS (As := [.int a]) (rest := []) X (k_X10_isRow Γ l L (M) a) s_X10_isRow ml_X10_99 hw hS rfl hl.1 ⟨Nat.le_of_ble_eq_true rfl, Nat.le_of_ble_eq_true rfl⟩ (Nat.le_of_ble_eq_true rfl) ⟨Nat.le_of_ble_eq_true rfl, Nat.le_of_ble_eq_true rfl⟩ dX10_isThing_13) hS (fun r_6 L1 M1 H locs hp_5 hw hS => ?_)
      obtain ⟨rfl, e1, e2⟩ := hp_5
      rw [e1, e2] at hw; clear e1 e2
      refine lv_if_eq (tgt := 23) hx hb dX10_isThing_16 (by decide) (fun c_7 => ?_) (fun c_7 => ?_)
      · skip
        have c_7 := bI_f c_7
        refine lv_iconst (v := 0) hx hb dX10_isThing_23 (by decide) ?_
        exact m_zret (b := r_isThing a) X hr hlk hw hS (Nat.zero_le _) (Nat.zero_le _) (by clear hb hx hl hS hw hnm hlk hr X; first | rfl | (simp_all [bI, r_isThing]; done) | (simp_all [bI, r_isThing]; rfl)) (⟨rfl, rfl, rfl⟩) dX10_isThing_24
      · skip
        have c_7 := bI_t c_7
        refine lv_iconst (v := 1) hx hb dX10_isThing_19 (by decide) ?_
        refine lv_goto (tgt := 24) hx hb dX10_isThing_20 (by decide) ?_
        exact m_zret (b := r_isThing a) X hr hlk hw hS (Nat.zero_le _) (Nat.zero_le _) (by clear hb hx hl hS hw hnm hlk hr X; first | rfl | (simp_all [bI, r_isThing]; done) | (simp_all [bI, r_isThing]; rfl)) (⟨rfl, rfl, rfl⟩) dX10_isThing_24
theorem s_X10_isKind : mSm yX10_isKind cX10_isKind 1 (some .boolean) 1 := ⟨cd_X10_isKind, st_X10_isKind, ini_X10, by decide, by decide, by decide +kernel⟩
set_option maxHeartbeats 4000000 in
set_option maxRecDepth 100000 in
theorem k_X10_isKind (Γ : mG) (l : Launch) (L : mI → Nat) (M : mM) (a : Int32) : mMet Γ l yX10_isKind cX10_isKind 1 (some .boolean) { frames := 2, cells := 0, slots := 0, locals := 45 } [.int a] L M (mQi Γ (fun r L1 M1 => r = bI (r_isKind a) ∧ L1 = L ∧ M1 = M)) := by
  refine m_start (by decide) (Nat.le_of_ble_eq_true rfl) ?_
  intro p e s m args below meth c A ls X hr hlk hnm hw hS hl
  have hx := X.1.1
  have hb := X.1.2.1
  have hl : lv_has ls 1 [(0, .int a)] := hl
  refine lv_iload_n hx hb dX10_isKind_0 rfl (lv_at hl 0 rfl) ?_
  refine lv_i2l (v := a.toInt64) hx hb dX10_isKind_1 rfl ?_
  refine lv_lconst (v := 0) hx hb dX10_isKind_2 (by decide) ?_
  refine lv_ldc2 (v := (5)) hx hb X.1.2.2.2.1 (X.1.2.2.2.2 _ kl_X10_102) dX10_isKind_3 ?_
  refine m_calli (m_runS (As := [.long a.toInt64, .long 0, .long (5)]) (rest := []) X (k_X10_isIn Γ l L (M) a.toInt64 0 (5)) s_X10_isIn ml_X10_79 hw hS rfl hl.1 ⟨Nat.le_of_ble_eq_true rfl, Nat.le_of_ble_eq_true rfl⟩ (Nat.le_of_ble_eq_true rfl) ⟨Nat.le_of_ble_eq_true rfl, Nat.le_of_ble_eq_true rfl⟩ dX10_isKind_6) hS (fun r_2 L1 M1 H locs hp_1 hw hS => ?_)
  obtain ⟨rfl, e1, e2⟩ := hp_1
  rw [e1, e2] at hw; clear e1 e2
  refine lv_if_ne (tgt := 40) hx hb dX10_isKind_9 (by decide) (fun c_3 => ?_) (fun c_3 => ?_)
  · skip
    have c_3 := bI_t c_3
    refine lv_iconst (v := 1) hx hb dX10_isKind_40 (by decide) ?_
    refine lv_goto (tgt := 45) hx hb dX10_isKind_41 (by decide) ?_
    exact m_zret (b := r_isKind a) X hr hlk hw hS (Nat.zero_le _) (Nat.zero_le _) (by clear hb hx hl hS hw hnm hlk hr X; first | rfl | (simp_all [bI, r_isKind]; done) | (simp_all [bI, r_isKind]; rfl)) (⟨rfl, rfl, rfl⟩) dX10_isKind_45
  · skip
    have c_3 := bI_f c_3
    refine lv_iload_n hx hb dX10_isKind_12 rfl (lv_at hl 0 rfl) ?_
    refine m_calli (m_runS (As := [.int a]) (rest := []) X (k_X10_isObject Γ l L (M) a) s_X10_isObject ml_X10_95 hw hS rfl hl.1 ⟨Nat.le_of_ble_eq_true rfl, Nat.le_of_ble_eq_true rfl⟩ (Nat.le_of_ble_eq_true rfl) ⟨Nat.le_of_ble_eq_true rfl, Nat.le_of_ble_eq_true rfl⟩ dX10_isKind_13) hS (fun r_5 L1 M1 H locs hp_4 hw hS => ?_)
    obtain ⟨rfl, e1, e2⟩ := hp_4
    rw [e1, e2] at hw; clear e1 e2
    refine lv_if_ne (tgt := 40) hx hb dX10_isKind_16 (by decide) (fun c_6 => ?_) (fun c_6 => ?_)
    · skip
      have c_6 := bI_t c_6
      refine lv_iconst (v := 1) hx hb dX10_isKind_40 (by decide) ?_
      refine lv_goto (tgt := 45) hx hb dX10_isKind_41 (by decide) ?_
      exact m_zret (b := r_isKind a) X hr hlk hw hS (Nat.zero_le _) (Nat.zero_le _) (by clear hb hx hl hS hw hnm hlk hr X; first | rfl | (simp_all [bI, r_isKind]; done) | (simp_all [bI, r_isKind]; rfl)) (⟨rfl, rfl, rfl⟩) dX10_isKind_45
    · skip
      have c_6 := bI_f c_6
      refine lv_iload_n hx hb dX10_isKind_19 rfl (lv_at hl 0 rfl) ?_
      refine m_calli (m_runS (As := [.int a]) (rest := []) X (k_X10_isRow Γ l L (M) a) s_X10_isRow ml_X10_99 hw hS rfl hl.1 ⟨Nat.le_of_ble_eq_true rfl, Nat.le_of_ble_eq_true rfl⟩ (Nat.le_of_ble_eq_true rfl) ⟨Nat.le_of_ble_eq_true rfl, Nat.le_of_ble_eq_true rfl⟩ dX10_isKind_20) hS (fun r_8 L1 M1 H locs hp_7 hw hS => ?_)
      obtain ⟨rfl, e1, e2⟩ := hp_7
      rw [e1, e2] at hw; clear e1 e2
      refine lv_if_ne (tgt := 40) hx hb dX10_isKind_23 (by decide) (fun c_9 => ?_) (fun c_9 => ?_)
      · skip
        have c_9 := bI_t c_9
        refine lv_iconst (v := 1) hx hb dX10_isKind_40 (by decide) ?_
        refine lv_goto (tgt := 45) hx hb dX10_isKind_41 (by decide) ?_
        exact m_zret (b := r_isKind a) X hr hlk hw hS (Nat.zero_le _) (Nat.zero_le _) (by clear hb hx hl hS hw hnm hlk hr X; first | rfl | (simp_all [bI, r_isKind]; done) | (simp_all [bI, r_isKind]; rfl)) (⟨rfl, rfl, rfl⟩) dX10_isKind_45
      · skip
        have c_9 := bI_f c_9
        refine lv_iload_n hx hb dX10_isKind_26 rfl (lv_at hl 0 rfl) ?_
        refine lv_i2l (v := a.toInt64) hx hb dX10_isKind_27 rfl ?_
        refine lv_ldc2 (v := (100)) hx hb X.1.2.2.2.1 (X.1.2.2.2.2 _ kl_X10_104) dX10_isKind_28 ?_
        refine lv_ldc2 (v := (139)) hx hb X.1.2.2.2.1 (X.1.2.2.2.2 _ kl_X10_106) dX10_isKind_31 ?_
        refine m_calli (m_runS (As := [.long a.toInt64, .long (100), .long (139)]) (rest := []) X (k_X10_isIn Γ l L (M) a.toInt64 (100) (139)) s_X10_isIn ml_X10_79 hw hS rfl hl.1 ⟨Nat.le_of_ble_eq_true rfl, Nat.le_of_ble_eq_true rfl⟩ (Nat.le_of_ble_eq_true rfl) ⟨Nat.le_of_ble_eq_true rfl, Nat.le_of_ble_eq_true rfl⟩ dX10_isKind_34) hS (fun r_11 L1 M1 H locs hp_10 hw hS => ?_)
        obtain ⟨rfl, e1, e2⟩ := hp_10
        rw [e1, e2] at hw; clear e1 e2
        refine lv_if_eq (tgt := 44) hx hb dX10_isKind_37 (by decide) (fun c_12 => ?_) (fun c_12 => ?_)
        · skip
          have c_12 := bI_f c_12
          refine lv_iconst (v := 0) hx hb dX10_isKind_44 (by decide) ?_
          exact m_zret (b := r_isKind a) X hr hlk hw hS (Nat.zero_le _) (Nat.zero_le _) (by clear hb hx hl hS hw hnm hlk hr X; first | rfl | (simp_all [bI, r_isKind]; done) | (simp_all [bI, r_isKind]; rfl)) (⟨rfl, rfl, rfl⟩) dX10_isKind_45
        · skip
          have c_12 := bI_t c_12
          refine lv_iconst (v := 1) hx hb dX10_isKind_40 (by decide) ?_
          refine lv_goto (tgt := 45) hx hb dX10_isKind_41 (by decide) ?_
          exact m_zret (b := r_isKind a) X hr hlk hw hS (Nat.zero_le _) (Nat.zero_le _) (by clear hb hx hl hS hw hnm hlk hr X; first | rfl | (simp_all [bI, r_isKind]; done) | (simp_all [bI, r_isKind]; rfl)) (⟨rfl, rfl, rfl⟩) dX10_isKind_45
theorem s_X10_goes : mSm yX10_goes cX10_goes 2 (some .boolean) 2 := ⟨cd_X10_goes, st_X10_goes, ini_X10, by decide, by decide, by decide +kernel⟩
set_option maxHeartbeats 4000000 in
set_option maxRecDepth 100000 in
theorem k_X10_goes (Γ : mG) (l : Launch) (L : mI → Nat) (M : mM) (a : Int32) (b : Int32) : mMet Γ l yX10_goes cX10_goes 2 (some .boolean) { frames := 3, cells := 0, slots := 0, locals := 65 } [.int a, .int b] L M (mQi Γ (fun r L1 M1 => r = bI (r_goes a b) ∧ L1 = L ∧ M1 = M)) := by
  refine m_start (by decide) (Nat.le_of_ble_eq_true rfl) ?_
  intro p e s m args below meth c A ls X hr hlk hnm hw hS hl
  have hx := X.1.1
  have hb := X.1.2.1
  have hl : lv_has ls 2 [(0, .int a), (1, .int b)] := hl
  refine lv_iload_n hx hb dX10_goes_0 rfl (lv_at hl 0 rfl) ?_
  refine lv_iload_n hx hb dX10_goes_1 rfl (lv_at hl 1 rfl) ?_
  refine lv_icmp_eq (tgt := 9) hx hb dX10_goes_2 (by decide) (fun c_1 => ?_) (fun c_1 => ?_)
  · skip
    refine lv_iconst (v := 1) hx hb dX10_goes_9 (by decide) ?_
    exact m_zret (b := r_goes a b) X hr hlk hw hS (Nat.zero_le _) (Nat.zero_le _) (by clear hb hx hl hS hw hnm hlk hr X; first | rfl | (simp_all [bI, r_goes]; done) | (simp_all [bI, r_goes]; rfl)) (⟨rfl, rfl, rfl⟩) dX10_goes_10
  · skip
    refine lv_iload_n hx hb dX10_goes_5 rfl (lv_at hl 1 rfl) ?_
    refine lv_if_ne (tgt := 11) hx hb dX10_goes_6 (by decide) (fun c_2 => ?_) (fun c_2 => ?_)
    · skip
      refine lv_iload_n hx hb dX10_goes_11 rfl (lv_at hl 0 rfl) ?_
      refine lv_iconst (v := 4) hx hb dX10_goes_12 (by decide) ?_
      refine lv_icmp_ne (tgt := 21) hx hb dX10_goes_13 (by decide) (fun c_3 => ?_) (fun c_3 => ?_)
      · skip
        refine lv_iload_n hx hb dX10_goes_21 rfl (lv_at hl 0 rfl) ?_
        refine m_calli (m_runS (As := [.int a]) (rest := []) X (k_X10_isObject Γ l L (M) a) s_X10_isObject ml_X10_95 hw hS rfl hl.1 ⟨Nat.le_of_ble_eq_true rfl, Nat.le_of_ble_eq_true rfl⟩ (Nat.le_of_ble_eq_true rfl) ⟨Nat.le_of_ble_eq_true rfl, Nat.le_of_ble_eq_true rfl⟩ dX10_goes_22) hS (fun r_5 L1 M1 H locs hp_4 hw hS => ?_)
        obtain ⟨rfl, e1, e2⟩ := hp_4
        rw [e1, e2] at hw; clear e1 e2
        refine lv_if_eq (tgt := 61) hx hb dX10_goes_25 (by decide) (fun c_6 => ?_) (fun c_6 => ?_)
        · skip
          have c_6 := bI_f c_6
          refine lv_iload_n hx hb dX10_goes_61 rfl (lv_at hl 0 rfl) ?_
          refine lv_iconst (v := 5) hx hb dX10_goes_62 (by decide) ?_
          refine lv_icmp_eq (tgt := 73) hx hb dX10_goes_63 (by decide) (fun c_7 => ?_) (fun c_7 => ?_)
          · skip
            refine lv_iload_n hx hb dX10_goes_73 rfl (lv_at hl 1 rfl) ?_
            refine m_calli (m_runS (As := [.int b]) (rest := []) X (k_X10_isObject Γ l L (M) b) s_X10_isObject ml_X10_95 hw hS rfl hl.1 ⟨Nat.le_of_ble_eq_true rfl, Nat.le_of_ble_eq_true rfl⟩ (Nat.le_of_ble_eq_true rfl) ⟨Nat.le_of_ble_eq_true rfl, Nat.le_of_ble_eq_true rfl⟩ dX10_goes_74) hS (fun r_9 L1 M1 H locs hp_8 hw hS => ?_)
            obtain ⟨rfl, e1, e2⟩ := hp_8
            rw [e1, e2] at hw; clear e1 e2
            refine lv_if_eq (tgt := 98) hx hb dX10_goes_77 (by decide) (fun c_10 => ?_) (fun c_10 => ?_)
            · skip
              have c_10 := bI_f c_10
              refine lv_iload_n hx hb dX10_goes_98 rfl (lv_at hl 0 rfl) ?_
              refine m_calli (m_runS (As := [.int a]) (rest := []) X (k_X10_isRow Γ l L (M) a) s_X10_isRow ml_X10_99 hw hS rfl hl.1 ⟨Nat.le_of_ble_eq_true rfl, Nat.le_of_ble_eq_true rfl⟩ (Nat.le_of_ble_eq_true rfl) ⟨Nat.le_of_ble_eq_true rfl, Nat.le_of_ble_eq_true rfl⟩ dX10_goes_99) hS (fun r_12 L1 M1 H locs hp_11 hw hS => ?_)
              obtain ⟨rfl, e1, e2⟩ := hp_11
              rw [e1, e2] at hw; clear e1 e2
              refine lv_if_eq (tgt := 130) hx hb dX10_goes_102 (by decide) (fun c_13 => ?_) (fun c_13 => ?_)
              · skip
                have c_13 := bI_f c_13
                refine lv_iconst (v := 0) hx hb dX10_goes_130 (by decide) ?_
                exact m_zret (b := r_goes a b) X hr hlk hw hS (Nat.zero_le _) (Nat.zero_le _) (by clear hb hx hl hS hw hnm hlk hr X; first | rfl | (simp_all [bI, r_goes]; done) | (simp_all [bI, r_goes]; rfl)) (⟨rfl, rfl, rfl⟩) dX10_goes_131
              · skip
                have c_13 := bI_t c_13
                refine lv_iload_n hx hb dX10_goes_105 rfl (lv_at hl 1 rfl) ?_
                refine m_calli (m_runS (As := [.int b]) (rest := []) X (k_X10_isRow Γ l L (M) b) s_X10_isRow ml_X10_99 hw hS rfl hl.1 ⟨Nat.le_of_ble_eq_true rfl, Nat.le_of_ble_eq_true rfl⟩ (Nat.le_of_ble_eq_true rfl) ⟨Nat.le_of_ble_eq_true rfl, Nat.le_of_ble_eq_true rfl⟩ dX10_goes_106) hS (fun r_15 L1 M1 H locs hp_14 hw hS => ?_)
                obtain ⟨rfl, e1, e2⟩ := hp_14
                rw [e1, e2] at hw; clear e1 e2
                refine lv_if_eq (tgt := 130) hx hb dX10_goes_109 (by decide) (fun c_16 => ?_) (fun c_16 => ?_)
                · skip
                  have c_16 := bI_f c_16
                  refine lv_iconst (v := 0) hx hb dX10_goes_130 (by decide) ?_
                  exact m_zret (b := r_goes a b) X hr hlk hw hS (Nat.zero_le _) (Nat.zero_le _) (by clear hb hx hl hS hw hnm hlk hr X; first | rfl | (simp_all [bI, r_goes]; done) | (simp_all [bI, r_goes]; rfl)) (⟨rfl, rfl, rfl⟩) dX10_goes_131
                · skip
                  have c_16 := bI_t c_16
                  refine lv_iload_n hx hb dX10_goes_112 rfl (lv_at hl 0 rfl) ?_
                  refine lv_bipush (v := 20) hx hb dX10_goes_113 (by decide) ?_
                  refine lv_isub hx hb dX10_goes_115 ?_
                  refine lv_iload_n hx hb dX10_goes_116 rfl (lv_at hl 1 rfl) ?_
                  refine lv_bipush (v := 20) hx hb dX10_goes_117 (by decide) ?_
                  refine lv_isub hx hb dX10_goes_119 ?_
                  refine m_calli (m_runS (As := [.int (a - 20), .int (b - 20)]) (rest := []) X (k_X10_isUnder Γ l L (M) (a - 20) (b - 20)) s_X10_isUnder ml_X10_111 hw hS rfl hl.1 ⟨Nat.le_of_ble_eq_true rfl, Nat.le_of_ble_eq_true rfl⟩ (Nat.le_of_ble_eq_true rfl) ⟨Nat.le_of_ble_eq_true rfl, Nat.le_of_ble_eq_true rfl⟩ dX10_goes_120) hS (fun r_18 L1 M1 H locs hp_17 hw hS => ?_)
                  obtain ⟨rfl, e1, e2⟩ := hp_17
                  rw [e1, e2] at hw; clear e1 e2
                  refine lv_if_eq (tgt := 130) hx hb dX10_goes_123 (by decide) (fun c_19 => ?_) (fun c_19 => ?_)
                  · skip
                    have c_19 := bI_f c_19
                    refine lv_iconst (v := 0) hx hb dX10_goes_130 (by decide) ?_
                    exact m_zret (b := r_goes a b) X hr hlk hw hS (Nat.zero_le _) (Nat.zero_le _) (by clear hb hx hl hS hw hnm hlk hr X; first | rfl | (simp_all [bI, r_goes]; done) | (simp_all [bI, r_goes]; rfl)) (⟨rfl, rfl, rfl⟩) dX10_goes_131
                  · skip
                    have c_19 := bI_t c_19
                    refine lv_iconst (v := 1) hx hb dX10_goes_126 (by decide) ?_
                    refine lv_goto (tgt := 131) hx hb dX10_goes_127 (by decide) ?_
                    exact m_zret (b := r_goes a b) X hr hlk hw hS (Nat.zero_le _) (Nat.zero_le _) (by clear hb hx hl hS hw hnm hlk hr X; first | rfl | (simp_all [bI, r_goes]; done) | (simp_all [bI, r_goes]; rfl)) (⟨rfl, rfl, rfl⟩) dX10_goes_131
            · skip
              have c_10 := bI_t c_10
              refine lv_iload_n hx hb dX10_goes_80 rfl (lv_at hl 1 rfl) ?_
              refine lv_bipush (v := 10) hx hb dX10_goes_81 (by decide) ?_
              refine lv_icmp_eq (tgt := 92) hx hb dX10_goes_83 (by decide) (fun c_20 => ?_) (fun c_20 => ?_)
              · skip
                refine lv_iconst (v := 1) hx hb dX10_goes_92 (by decide) ?_
                refine lv_goto (tgt := 97) hx hb dX10_goes_93 (by decide) ?_
                exact m_zret (b := r_goes a b) X hr hlk hw hS (Nat.zero_le _) (Nat.zero_le _) (by clear hb hx hl hS hw hnm hlk hr X; first | rfl | (simp_all [bI, r_goes]; done) | (simp_all [bI, r_goes]; rfl)) (⟨rfl, rfl, rfl⟩) dX10_goes_97
              · skip
                refine lv_iload_n hx hb dX10_goes_86 rfl (lv_at hl 1 rfl) ?_
                refine lv_bipush (v := 15) hx hb dX10_goes_87 (by decide) ?_
                refine lv_icmp_le (tgt := 96) hx hb dX10_goes_89 (by decide) (fun c_21 => ?_) (fun c_21 => ?_)
                · skip
                  refine lv_iconst (v := 0) hx hb dX10_goes_96 (by decide) ?_
                  exact m_zret (b := r_goes a b) X hr hlk hw hS (Nat.zero_le _) (Nat.zero_le _) (by clear hb hx hl hS hw hnm hlk hr X; first | rfl | (simp_all [bI, r_goes]; done) | (simp_all [bI, r_goes]; rfl)) (⟨rfl, rfl, rfl⟩) dX10_goes_97
                · skip
                  refine lv_iconst (v := 1) hx hb dX10_goes_92 (by decide) ?_
                  refine lv_goto (tgt := 97) hx hb dX10_goes_93 (by decide) ?_
                  exact m_zret (b := r_goes a b) X hr hlk hw hS (Nat.zero_le _) (Nat.zero_le _) (by clear hb hx hl hS hw hnm hlk hr X; first | rfl | (simp_all [bI, r_goes]; done) | (simp_all [bI, r_goes]; rfl)) (⟨rfl, rfl, rfl⟩) dX10_goes_97
          · skip
            refine lv_iload_n hx hb dX10_goes_66 rfl (lv_at hl 0 rfl) ?_
            refine m_calli (m_runS (As := [.int a]) (rest := []) X (k_X10_isRow Γ l L (M) a) s_X10_isRow ml_X10_99 hw hS rfl hl.1 ⟨Nat.le_of_ble_eq_true rfl, Nat.le_of_ble_eq_true rfl⟩ (Nat.le_of_ble_eq_true rfl) ⟨Nat.le_of_ble_eq_true rfl, Nat.le_of_ble_eq_true rfl⟩ dX10_goes_67) hS (fun r_23 L1 M1 H locs hp_22 hw hS => ?_)
            obtain ⟨rfl, e1, e2⟩ := hp_22
            rw [e1, e2] at hw; clear e1 e2
            refine lv_if_eq (tgt := 98) hx hb dX10_goes_70 (by decide) (fun c_24 => ?_) (fun c_24 => ?_)
            · skip
              have c_24 := bI_f c_24
              refine lv_iload_n hx hb dX10_goes_98 rfl (lv_at hl 0 rfl) ?_
              refine m_calli (m_runS (As := [.int a]) (rest := []) X (k_X10_isRow Γ l L (M) a) s_X10_isRow ml_X10_99 hw hS rfl hl.1 ⟨Nat.le_of_ble_eq_true rfl, Nat.le_of_ble_eq_true rfl⟩ (Nat.le_of_ble_eq_true rfl) ⟨Nat.le_of_ble_eq_true rfl, Nat.le_of_ble_eq_true rfl⟩ dX10_goes_99) hS (fun r_26 L1 M1 H locs hp_25 hw hS => ?_)
              obtain ⟨rfl, e1, e2⟩ := hp_25
              rw [e1, e2] at hw; clear e1 e2
              refine lv_if_eq (tgt := 130) hx hb dX10_goes_102 (by decide) (fun c_27 => ?_) (fun c_27 => ?_)
              · skip
                have c_27 := bI_f c_27
                refine lv_iconst (v := 0) hx hb dX10_goes_130 (by decide) ?_
                exact m_zret (b := r_goes a b) X hr hlk hw hS (Nat.zero_le _) (Nat.zero_le _) (by clear hb hx hl hS hw hnm hlk hr X; first | rfl | (simp_all [bI, r_goes]; done) | (simp_all [bI, r_goes]; rfl)) (⟨rfl, rfl, rfl⟩) dX10_goes_131
              · skip
                have c_27 := bI_t c_27
                refine lv_iload_n hx hb dX10_goes_105 rfl (lv_at hl 1 rfl) ?_
                refine m_calli (m_runS (As := [.int b]) (rest := []) X (k_X10_isRow Γ l L (M) b) s_X10_isRow ml_X10_99 hw hS rfl hl.1 ⟨Nat.le_of_ble_eq_true rfl, Nat.le_of_ble_eq_true rfl⟩ (Nat.le_of_ble_eq_true rfl) ⟨Nat.le_of_ble_eq_true rfl, Nat.le_of_ble_eq_true rfl⟩ dX10_goes_106) hS (fun r_29 L1 M1 H locs hp_28 hw hS => ?_)
                obtain ⟨rfl, e1, e2⟩ := hp_28
                rw [e1, e2] at hw; clear e1 e2
                refine lv_if_eq (tgt := 130) hx hb dX10_goes_109 (by decide) (fun c_30 => ?_) (fun c_30 => ?_)
                · skip
                  have c_30 := bI_f c_30
                  refine lv_iconst (v := 0) hx hb dX10_goes_130 (by decide) ?_
                  exact m_zret (b := r_goes a b) X hr hlk hw hS (Nat.zero_le _) (Nat.zero_le _) (by clear hb hx hl hS hw hnm hlk hr X; first | rfl | (simp_all [bI, r_goes]; done) | (simp_all [bI, r_goes]; rfl)) (⟨rfl, rfl, rfl⟩) dX10_goes_131
                · skip
                  have c_30 := bI_t c_30
                  refine lv_iload_n hx hb dX10_goes_112 rfl (lv_at hl 0 rfl) ?_
                  refine lv_bipush (v := 20) hx hb dX10_goes_113 (by decide) ?_
                  refine lv_isub hx hb dX10_goes_115 ?_
                  refine lv_iload_n hx hb dX10_goes_116 rfl (lv_at hl 1 rfl) ?_
                  refine lv_bipush (v := 20) hx hb dX10_goes_117 (by decide) ?_
                  refine lv_isub hx hb dX10_goes_119 ?_
                  refine m_calli (m_runS (As := [.int (a - 20), .int (b - 20)]) (rest := []) X (k_X10_isUnder Γ l L (M) (a - 20) (b - 20)) s_X10_isUnder ml_X10_111 hw hS rfl hl.1 ⟨Nat.le_of_ble_eq_true rfl, Nat.le_of_ble_eq_true rfl⟩ (Nat.le_of_ble_eq_true rfl) ⟨Nat.le_of_ble_eq_true rfl, Nat.le_of_ble_eq_true rfl⟩ dX10_goes_120) hS (fun r_32 L1 M1 H locs hp_31 hw hS => ?_)
                  obtain ⟨rfl, e1, e2⟩ := hp_31
                  rw [e1, e2] at hw; clear e1 e2
                  refine lv_if_eq (tgt := 130) hx hb dX10_goes_123 (by decide) (fun c_33 => ?_) (fun c_33 => ?_)
                  · skip
                    have c_33 := bI_f c_33
                    refine lv_iconst (v := 0) hx hb dX10_goes_130 (by decide) ?_
                    exact m_zret (b := r_goes a b) X hr hlk hw hS (Nat.zero_le _) (Nat.zero_le _) (by clear hb hx hl hS hw hnm hlk hr X; first | rfl | (simp_all [bI, r_goes]; done) | (simp_all [bI, r_goes]; rfl)) (⟨rfl, rfl, rfl⟩) dX10_goes_131
                  · skip
                    have c_33 := bI_t c_33
                    refine lv_iconst (v := 1) hx hb dX10_goes_126 (by decide) ?_
                    refine lv_goto (tgt := 131) hx hb dX10_goes_127 (by decide) ?_
                    exact m_zret (b := r_goes a b) X hr hlk hw hS (Nat.zero_le _) (Nat.zero_le _) (by clear hb hx hl hS hw hnm hlk hr X; first | rfl | (simp_all [bI, r_goes]; done) | (simp_all [bI, r_goes]; rfl)) (⟨rfl, rfl, rfl⟩) dX10_goes_131
            · skip
              have c_24 := bI_t c_24
              refine lv_iload_n hx hb dX10_goes_73 rfl (lv_at hl 1 rfl) ?_
              refine m_calli (m_runS (As := [.int b]) (rest := []) X (k_X10_isObject Γ l L (M) b) s_X10_isObject ml_X10_95 hw hS rfl hl.1 ⟨Nat.le_of_ble_eq_true rfl, Nat.le_of_ble_eq_true rfl⟩ (Nat.le_of_ble_eq_true rfl) ⟨Nat.le_of_ble_eq_true rfl, Nat.le_of_ble_eq_true rfl⟩ dX10_goes_74) hS (fun r_35 L1 M1 H locs hp_34 hw hS => ?_)
              obtain ⟨rfl, e1, e2⟩ := hp_34
              rw [e1, e2] at hw; clear e1 e2
              refine lv_if_eq (tgt := 98) hx hb dX10_goes_77 (by decide) (fun c_36 => ?_) (fun c_36 => ?_)
              · skip
                have c_36 := bI_f c_36
                refine lv_iload_n hx hb dX10_goes_98 rfl (lv_at hl 0 rfl) ?_
                refine m_calli (m_runS (As := [.int a]) (rest := []) X (k_X10_isRow Γ l L (M) a) s_X10_isRow ml_X10_99 hw hS rfl hl.1 ⟨Nat.le_of_ble_eq_true rfl, Nat.le_of_ble_eq_true rfl⟩ (Nat.le_of_ble_eq_true rfl) ⟨Nat.le_of_ble_eq_true rfl, Nat.le_of_ble_eq_true rfl⟩ dX10_goes_99) hS (fun r_38 L1 M1 H locs hp_37 hw hS => ?_)
                obtain ⟨rfl, e1, e2⟩ := hp_37
                rw [e1, e2] at hw; clear e1 e2
                refine lv_if_eq (tgt := 130) hx hb dX10_goes_102 (by decide) (fun c_39 => ?_) (fun c_39 => ?_)
                · skip
                  have c_39 := bI_f c_39
                  refine lv_iconst (v := 0) hx hb dX10_goes_130 (by decide) ?_
                  exact m_zret (b := r_goes a b) X hr hlk hw hS (Nat.zero_le _) (Nat.zero_le _) (by clear hb hx hl hS hw hnm hlk hr X; first | rfl | (simp_all [bI, r_goes]; done) | (simp_all [bI, r_goes]; rfl)) (⟨rfl, rfl, rfl⟩) dX10_goes_131
                · skip
                  have c_39 := bI_t c_39
                  refine lv_iload_n hx hb dX10_goes_105 rfl (lv_at hl 1 rfl) ?_
                  refine m_calli (m_runS (As := [.int b]) (rest := []) X (k_X10_isRow Γ l L (M) b) s_X10_isRow ml_X10_99 hw hS rfl hl.1 ⟨Nat.le_of_ble_eq_true rfl, Nat.le_of_ble_eq_true rfl⟩ (Nat.le_of_ble_eq_true rfl) ⟨Nat.le_of_ble_eq_true rfl, Nat.le_of_ble_eq_true rfl⟩ dX10_goes_106) hS (fun r_41 L1 M1 H locs hp_40 hw hS => ?_)
                  obtain ⟨rfl, e1, e2⟩ := hp_40
                  rw [e1, e2] at hw; clear e1 e2
                  refine lv_if_eq (tgt := 130) hx hb dX10_goes_109 (by decide) (fun c_42 => ?_) (fun c_42 => ?_)
                  · skip
                    have c_42 := bI_f c_42
                    refine lv_iconst (v := 0) hx hb dX10_goes_130 (by decide) ?_
                    exact m_zret (b := r_goes a b) X hr hlk hw hS (Nat.zero_le _) (Nat.zero_le _) (by clear hb hx hl hS hw hnm hlk hr X; first | rfl | (simp_all [bI, r_goes]; done) | (simp_all [bI, r_goes]; rfl)) (⟨rfl, rfl, rfl⟩) dX10_goes_131
                  · skip
                    have c_42 := bI_t c_42
                    refine lv_iload_n hx hb dX10_goes_112 rfl (lv_at hl 0 rfl) ?_
                    refine lv_bipush (v := 20) hx hb dX10_goes_113 (by decide) ?_
                    refine lv_isub hx hb dX10_goes_115 ?_
                    refine lv_iload_n hx hb dX10_goes_116 rfl (lv_at hl 1 rfl) ?_
                    refine lv_bipush (v := 20) hx hb dX10_goes_117 (by decide) ?_
                    refine lv_isub hx hb dX10_goes_119 ?_
                    refine m_calli (m_runS (As := [.int (a - 20), .int (b - 20)]) (rest := []) X (k_X10_isUnder Γ l L (M) (a - 20) (b - 20)) s_X10_isUnder ml_X10_111 hw hS rfl hl.1 ⟨Nat.le_of_ble_eq_true rfl, Nat.le_of_ble_eq_true rfl⟩ (Nat.le_of_ble_eq_true rfl) ⟨Nat.le_of_ble_eq_true rfl, Nat.le_of_ble_eq_true rfl⟩ dX10_goes_120) hS (fun r_44 L1 M1 H locs hp_43 hw hS => ?_)
                    obtain ⟨rfl, e1, e2⟩ := hp_43
                    rw [e1, e2] at hw; clear e1 e2
                    refine lv_if_eq (tgt := 130) hx hb dX10_goes_123 (by decide) (fun c_45 => ?_) (fun c_45 => ?_)
                    · skip
                      have c_45 := bI_f c_45
                      refine lv_iconst (v := 0) hx hb dX10_goes_130 (by decide) ?_
                      exact m_zret (b := r_goes a b) X hr hlk hw hS (Nat.zero_le _) (Nat.zero_le _) (by clear hb hx hl hS hw hnm hlk hr X; first | rfl | (simp_all [bI, r_goes]; done) | (simp_all [bI, r_goes]; rfl)) (⟨rfl, rfl, rfl⟩) dX10_goes_131
                    · skip
                      have c_45 := bI_t c_45
                      refine lv_iconst (v := 1) hx hb dX10_goes_126 (by decide) ?_
                      refine lv_goto (tgt := 131) hx hb dX10_goes_127 (by decide) ?_
                      exact m_zret (b := r_goes a b) X hr hlk hw hS (Nat.zero_le _) (Nat.zero_le _) (by clear hb hx hl hS hw hnm hlk hr X; first | rfl | (simp_all [bI, r_goes]; done) | (simp_all [bI, r_goes]; rfl)) (⟨rfl, rfl, rfl⟩) dX10_goes_131
              · skip
                have c_36 := bI_t c_36
                refine lv_iload_n hx hb dX10_goes_80 rfl (lv_at hl 1 rfl) ?_
                refine lv_bipush (v := 10) hx hb dX10_goes_81 (by decide) ?_
                refine lv_icmp_eq (tgt := 92) hx hb dX10_goes_83 (by decide) (fun c_46 => ?_) (fun c_46 => ?_)
                · skip
                  refine lv_iconst (v := 1) hx hb dX10_goes_92 (by decide) ?_
                  refine lv_goto (tgt := 97) hx hb dX10_goes_93 (by decide) ?_
                  exact m_zret (b := r_goes a b) X hr hlk hw hS (Nat.zero_le _) (Nat.zero_le _) (by clear hb hx hl hS hw hnm hlk hr X; first | rfl | (simp_all [bI, r_goes]; done) | (simp_all [bI, r_goes]; rfl)) (⟨rfl, rfl, rfl⟩) dX10_goes_97
                · skip
                  refine lv_iload_n hx hb dX10_goes_86 rfl (lv_at hl 1 rfl) ?_
                  refine lv_bipush (v := 15) hx hb dX10_goes_87 (by decide) ?_
                  refine lv_icmp_le (tgt := 96) hx hb dX10_goes_89 (by decide) (fun c_47 => ?_) (fun c_47 => ?_)
                  · skip
                    refine lv_iconst (v := 0) hx hb dX10_goes_96 (by decide) ?_
                    exact m_zret (b := r_goes a b) X hr hlk hw hS (Nat.zero_le _) (Nat.zero_le _) (by clear hb hx hl hS hw hnm hlk hr X; first | rfl | (simp_all [bI, r_goes]; done) | (simp_all [bI, r_goes]; rfl)) (⟨rfl, rfl, rfl⟩) dX10_goes_97
                  · skip
                    refine lv_iconst (v := 1) hx hb dX10_goes_92 (by decide) ?_
                    refine lv_goto (tgt := 97) hx hb dX10_goes_93 (by decide) ?_
                    exact m_zret (b := r_goes a b) X hr hlk hw hS (Nat.zero_le _) (Nat.zero_le _) (by clear hb hx hl hS hw hnm hlk hr X; first | rfl | (simp_all [bI, r_goes]; done) | (simp_all [bI, r_goes]; rfl)) (⟨rfl, rfl, rfl⟩) dX10_goes_97
        · skip
          have c_6 := bI_t c_6
          refine lv_iload_n hx hb dX10_goes_28 rfl (lv_at hl 1 rfl) ?_
          refine m_calli (m_runS (As := [.int b]) (rest := []) X (k_X10_isObject Γ l L (M) b) s_X10_isObject ml_X10_95 hw hS rfl hl.1 ⟨Nat.le_of_ble_eq_true rfl, Nat.le_of_ble_eq_true rfl⟩ (Nat.le_of_ble_eq_true rfl) ⟨Nat.le_of_ble_eq_true rfl, Nat.le_of_ble_eq_true rfl⟩ dX10_goes_29) hS (fun r_49 L1 M1 H locs hp_48 hw hS => ?_)
          obtain ⟨rfl, e1, e2⟩ := hp_48
          rw [e1, e2] at hw; clear e1 e2
          refine lv_if_eq (tgt := 61) hx hb dX10_goes_32 (by decide) (fun c_50 => ?_) (fun c_50 => ?_)
          · skip
            have c_50 := bI_f c_50
            refine lv_iload_n hx hb dX10_goes_61 rfl (lv_at hl 0 rfl) ?_
            refine lv_iconst (v := 5) hx hb dX10_goes_62 (by decide) ?_
            refine lv_icmp_eq (tgt := 73) hx hb dX10_goes_63 (by decide) (fun c_51 => ?_) (fun c_51 => ?_)
            · skip
              refine lv_iload_n hx hb dX10_goes_73 rfl (lv_at hl 1 rfl) ?_
              refine m_calli (m_runS (As := [.int b]) (rest := []) X (k_X10_isObject Γ l L (M) b) s_X10_isObject ml_X10_95 hw hS rfl hl.1 ⟨Nat.le_of_ble_eq_true rfl, Nat.le_of_ble_eq_true rfl⟩ (Nat.le_of_ble_eq_true rfl) ⟨Nat.le_of_ble_eq_true rfl, Nat.le_of_ble_eq_true rfl⟩ dX10_goes_74) hS (fun r_53 L1 M1 H locs hp_52 hw hS => ?_)
              obtain ⟨rfl, e1, e2⟩ := hp_52
              rw [e1, e2] at hw; clear e1 e2
              refine lv_if_eq (tgt := 98) hx hb dX10_goes_77 (by decide) (fun c_54 => ?_) (fun c_54 => ?_)
              · skip
                have c_54 := bI_f c_54
                refine lv_iload_n hx hb dX10_goes_98 rfl (lv_at hl 0 rfl) ?_
                refine m_calli (m_runS (As := [.int a]) (rest := []) X (k_X10_isRow Γ l L (M) a) s_X10_isRow ml_X10_99 hw hS rfl hl.1 ⟨Nat.le_of_ble_eq_true rfl, Nat.le_of_ble_eq_true rfl⟩ (Nat.le_of_ble_eq_true rfl) ⟨Nat.le_of_ble_eq_true rfl, Nat.le_of_ble_eq_true rfl⟩ dX10_goes_99) hS (fun r_56 L1 M1 H locs hp_55 hw hS => ?_)
                obtain ⟨rfl, e1, e2⟩ := hp_55
                rw [e1, e2] at hw; clear e1 e2
                refine lv_if_eq (tgt := 130) hx hb dX10_goes_102 (by decide) (fun c_57 => ?_) (fun c_57 => ?_)
                · skip
                  have c_57 := bI_f c_57
                  refine lv_iconst (v := 0) hx hb dX10_goes_130 (by decide) ?_
                  exact m_zret (b := r_goes a b) X hr hlk hw hS (Nat.zero_le _) (Nat.zero_le _) (by clear hb hx hl hS hw hnm hlk hr X; first | rfl | (simp_all [bI, r_goes]; done) | (simp_all [bI, r_goes]; rfl)) (⟨rfl, rfl, rfl⟩) dX10_goes_131
                · skip
                  have c_57 := bI_t c_57
                  refine lv_iload_n hx hb dX10_goes_105 rfl (lv_at hl 1 rfl) ?_
                  refine m_calli (m_runS (As := [.int b]) (rest := []) X (k_X10_isRow Γ l L (M) b) s_X10_isRow ml_X10_99 hw hS rfl hl.1 ⟨Nat.le_of_ble_eq_true rfl, Nat.le_of_ble_eq_true rfl⟩ (Nat.le_of_ble_eq_true rfl) ⟨Nat.le_of_ble_eq_true rfl, Nat.le_of_ble_eq_true rfl⟩ dX10_goes_106) hS (fun r_59 L1 M1 H locs hp_58 hw hS => ?_)
                  obtain ⟨rfl, e1, e2⟩ := hp_58
                  rw [e1, e2] at hw; clear e1 e2
                  refine lv_if_eq (tgt := 130) hx hb dX10_goes_109 (by decide) (fun c_60 => ?_) (fun c_60 => ?_)
                  · skip
                    have c_60 := bI_f c_60
                    refine lv_iconst (v := 0) hx hb dX10_goes_130 (by decide) ?_
                    exact m_zret (b := r_goes a b) X hr hlk hw hS (Nat.zero_le _) (Nat.zero_le _) (by clear hb hx hl hS hw hnm hlk hr X; first | rfl | (simp_all [bI, r_goes]; done) | (simp_all [bI, r_goes]; rfl)) (⟨rfl, rfl, rfl⟩) dX10_goes_131
                  · skip
                    have c_60 := bI_t c_60
                    refine lv_iload_n hx hb dX10_goes_112 rfl (lv_at hl 0 rfl) ?_
                    refine lv_bipush (v := 20) hx hb dX10_goes_113 (by decide) ?_
                    refine lv_isub hx hb dX10_goes_115 ?_
                    refine lv_iload_n hx hb dX10_goes_116 rfl (lv_at hl 1 rfl) ?_
                    refine lv_bipush (v := 20) hx hb dX10_goes_117 (by decide) ?_
                    refine lv_isub hx hb dX10_goes_119 ?_
                    refine m_calli (m_runS (As := [.int (a - 20), .int (b - 20)]) (rest := []) X (k_X10_isUnder Γ l L (M) (a - 20) (b - 20)) s_X10_isUnder ml_X10_111 hw hS rfl hl.1 ⟨Nat.le_of_ble_eq_true rfl, Nat.le_of_ble_eq_true rfl⟩ (Nat.le_of_ble_eq_true rfl) ⟨Nat.le_of_ble_eq_true rfl, Nat.le_of_ble_eq_true rfl⟩ dX10_goes_120) hS (fun r_62 L1 M1 H locs hp_61 hw hS => ?_)
                    obtain ⟨rfl, e1, e2⟩ := hp_61
                    rw [e1, e2] at hw; clear e1 e2
                    refine lv_if_eq (tgt := 130) hx hb dX10_goes_123 (by decide) (fun c_63 => ?_) (fun c_63 => ?_)
                    · skip
                      have c_63 := bI_f c_63
                      refine lv_iconst (v := 0) hx hb dX10_goes_130 (by decide) ?_
                      exact m_zret (b := r_goes a b) X hr hlk hw hS (Nat.zero_le _) (Nat.zero_le _) (by clear hb hx hl hS hw hnm hlk hr X; first | rfl | (simp_all [bI, r_goes]; done) | (simp_all [bI, r_goes]; rfl)) (⟨rfl, rfl, rfl⟩) dX10_goes_131
                    · skip
                      have c_63 := bI_t c_63
                      refine lv_iconst (v := 1) hx hb dX10_goes_126 (by decide) ?_
                      refine lv_goto (tgt := 131) hx hb dX10_goes_127 (by decide) ?_
                      exact m_zret (b := r_goes a b) X hr hlk hw hS (Nat.zero_le _) (Nat.zero_le _) (by clear hb hx hl hS hw hnm hlk hr X; first | rfl | (simp_all [bI, r_goes]; done) | (simp_all [bI, r_goes]; rfl)) (⟨rfl, rfl, rfl⟩) dX10_goes_131
              · skip
                have c_54 := bI_t c_54
                refine lv_iload_n hx hb dX10_goes_80 rfl (lv_at hl 1 rfl) ?_
                refine lv_bipush (v := 10) hx hb dX10_goes_81 (by decide) ?_
                refine lv_icmp_eq (tgt := 92) hx hb dX10_goes_83 (by decide) (fun c_64 => ?_) (fun c_64 => ?_)
                · skip
                  refine lv_iconst (v := 1) hx hb dX10_goes_92 (by decide) ?_
                  refine lv_goto (tgt := 97) hx hb dX10_goes_93 (by decide) ?_
                  exact m_zret (b := r_goes a b) X hr hlk hw hS (Nat.zero_le _) (Nat.zero_le _) (by clear hb hx hl hS hw hnm hlk hr X; first | rfl | (simp_all [bI, r_goes]; done) | (simp_all [bI, r_goes]; rfl)) (⟨rfl, rfl, rfl⟩) dX10_goes_97
                · skip
                  refine lv_iload_n hx hb dX10_goes_86 rfl (lv_at hl 1 rfl) ?_
                  refine lv_bipush (v := 15) hx hb dX10_goes_87 (by decide) ?_
                  refine lv_icmp_le (tgt := 96) hx hb dX10_goes_89 (by decide) (fun c_65 => ?_) (fun c_65 => ?_)
                  · skip
                    refine lv_iconst (v := 0) hx hb dX10_goes_96 (by decide) ?_
                    exact m_zret (b := r_goes a b) X hr hlk hw hS (Nat.zero_le _) (Nat.zero_le _) (by clear hb hx hl hS hw hnm hlk hr X; first | rfl | (simp_all [bI, r_goes]; done) | (simp_all [bI, r_goes]; rfl)) (⟨rfl, rfl, rfl⟩) dX10_goes_97
                  · skip
                    refine lv_iconst (v := 1) hx hb dX10_goes_92 (by decide) ?_
                    refine lv_goto (tgt := 97) hx hb dX10_goes_93 (by decide) ?_
                    exact m_zret (b := r_goes a b) X hr hlk hw hS (Nat.zero_le _) (Nat.zero_le _) (by clear hb hx hl hS hw hnm hlk hr X; first | rfl | (simp_all [bI, r_goes]; done) | (simp_all [bI, r_goes]; rfl)) (⟨rfl, rfl, rfl⟩) dX10_goes_97
            · skip
              refine lv_iload_n hx hb dX10_goes_66 rfl (lv_at hl 0 rfl) ?_
              refine m_calli (m_runS (As := [.int a]) (rest := []) X (k_X10_isRow Γ l L (M) a) s_X10_isRow ml_X10_99 hw hS rfl hl.1 ⟨Nat.le_of_ble_eq_true rfl, Nat.le_of_ble_eq_true rfl⟩ (Nat.le_of_ble_eq_true rfl) ⟨Nat.le_of_ble_eq_true rfl, Nat.le_of_ble_eq_true rfl⟩ dX10_goes_67) hS (fun r_67 L1 M1 H locs hp_66 hw hS => ?_)
              obtain ⟨rfl, e1, e2⟩ := hp_66
              rw [e1, e2] at hw; clear e1 e2
              refine lv_if_eq (tgt := 98) hx hb dX10_goes_70 (by decide) (fun c_68 => ?_) (fun c_68 => ?_)
              · skip
                have c_68 := bI_f c_68
                refine lv_iload_n hx hb dX10_goes_98 rfl (lv_at hl 0 rfl) ?_
                refine m_calli (m_runS (As := [.int a]) (rest := []) X (k_X10_isRow Γ l L (M) a) s_X10_isRow ml_X10_99 hw hS rfl hl.1 ⟨Nat.le_of_ble_eq_true rfl, Nat.le_of_ble_eq_true rfl⟩ (Nat.le_of_ble_eq_true rfl) ⟨Nat.le_of_ble_eq_true rfl, Nat.le_of_ble_eq_true rfl⟩ dX10_goes_99) hS (fun r_70 L1 M1 H locs hp_69 hw hS => ?_)
                obtain ⟨rfl, e1, e2⟩ := hp_69
                rw [e1, e2] at hw; clear e1 e2
                refine lv_if_eq (tgt := 130) hx hb dX10_goes_102 (by decide) (fun c_71 => ?_) (fun c_71 => ?_)
                · skip
                  have c_71 := bI_f c_71
                  refine lv_iconst (v := 0) hx hb dX10_goes_130 (by decide) ?_
                  exact m_zret (b := r_goes a b) X hr hlk hw hS (Nat.zero_le _) (Nat.zero_le _) (by clear hb hx hl hS hw hnm hlk hr X; first | rfl | (simp_all [bI, r_goes]; done) | (simp_all [bI, r_goes]; rfl)) (⟨rfl, rfl, rfl⟩) dX10_goes_131
                · skip
                  have c_71 := bI_t c_71
                  refine lv_iload_n hx hb dX10_goes_105 rfl (lv_at hl 1 rfl) ?_
                  refine m_calli (m_runS (As := [.int b]) (rest := []) X (k_X10_isRow Γ l L (M) b) s_X10_isRow ml_X10_99 hw hS rfl hl.1 ⟨Nat.le_of_ble_eq_true rfl, Nat.le_of_ble_eq_true rfl⟩ (Nat.le_of_ble_eq_true rfl) ⟨Nat.le_of_ble_eq_true rfl, Nat.le_of_ble_eq_true rfl⟩ dX10_goes_106) hS (fun r_73 L1 M1 H locs hp_72 hw hS => ?_)
                  obtain ⟨rfl, e1, e2⟩ := hp_72
                  rw [e1, e2] at hw; clear e1 e2
                  refine lv_if_eq (tgt := 130) hx hb dX10_goes_109 (by decide) (fun c_74 => ?_) (fun c_74 => ?_)
                  · skip
                    have c_74 := bI_f c_74
                    refine lv_iconst (v := 0) hx hb dX10_goes_130 (by decide) ?_
                    exact m_zret (b := r_goes a b) X hr hlk hw hS (Nat.zero_le _) (Nat.zero_le _) (by clear hb hx hl hS hw hnm hlk hr X; first | rfl | (simp_all [bI, r_goes]; done) | (simp_all [bI, r_goes]; rfl)) (⟨rfl, rfl, rfl⟩) dX10_goes_131
                  · skip
                    have c_74 := bI_t c_74
                    refine lv_iload_n hx hb dX10_goes_112 rfl (lv_at hl 0 rfl) ?_
                    refine lv_bipush (v := 20) hx hb dX10_goes_113 (by decide) ?_
                    refine lv_isub hx hb dX10_goes_115 ?_
                    refine lv_iload_n hx hb dX10_goes_116 rfl (lv_at hl 1 rfl) ?_
                    refine lv_bipush (v := 20) hx hb dX10_goes_117 (by decide) ?_
                    refine lv_isub hx hb dX10_goes_119 ?_
                    refine m_calli (m_runS (As := [.int (a - 20), .int (b - 20)]) (rest := []) X (k_X10_isUnder Γ l L (M) (a - 20) (b - 20)) s_X10_isUnder ml_X10_111 hw hS rfl hl.1 ⟨Nat.le_of_ble_eq_true rfl, Nat.le_of_ble_eq_true rfl⟩ (Nat.le_of_ble_eq_true rfl) ⟨Nat.le_of_ble_eq_true rfl, Nat.le_of_ble_eq_true rfl⟩ dX10_goes_120) hS (fun r_76 L1 M1 H locs hp_75 hw hS => ?_)
                    obtain ⟨rfl, e1, e2⟩ := hp_75
                    rw [e1, e2] at hw; clear e1 e2
                    refine lv_if_eq (tgt := 130) hx hb dX10_goes_123 (by decide) (fun c_77 => ?_) (fun c_77 => ?_)
                    · skip
                      have c_77 := bI_f c_77
                      refine lv_iconst (v := 0) hx hb dX10_goes_130 (by decide) ?_
                      exact m_zret (b := r_goes a b) X hr hlk hw hS (Nat.zero_le _) (Nat.zero_le _) (by clear hb hx hl hS hw hnm hlk hr X; first | rfl | (simp_all [bI, r_goes]; done) | (simp_all [bI, r_goes]; rfl)) (⟨rfl, rfl, rfl⟩) dX10_goes_131
                    · skip
                      have c_77 := bI_t c_77
                      refine lv_iconst (v := 1) hx hb dX10_goes_126 (by decide) ?_
                      refine lv_goto (tgt := 131) hx hb dX10_goes_127 (by decide) ?_
                      exact m_zret (b := r_goes a b) X hr hlk hw hS (Nat.zero_le _) (Nat.zero_le _) (by clear hb hx hl hS hw hnm hlk hr X; first | rfl | (simp_all [bI, r_goes]; done) | (simp_all [bI, r_goes]; rfl)) (⟨rfl, rfl, rfl⟩) dX10_goes_131
              · skip
                have c_68 := bI_t c_68
                refine lv_iload_n hx hb dX10_goes_73 rfl (lv_at hl 1 rfl) ?_
                refine m_calli (m_runS (As := [.int b]) (rest := []) X (k_X10_isObject Γ l L (M) b) s_X10_isObject ml_X10_95 hw hS rfl hl.1 ⟨Nat.le_of_ble_eq_true rfl, Nat.le_of_ble_eq_true rfl⟩ (Nat.le_of_ble_eq_true rfl) ⟨Nat.le_of_ble_eq_true rfl, Nat.le_of_ble_eq_true rfl⟩ dX10_goes_74) hS (fun r_79 L1 M1 H locs hp_78 hw hS => ?_)
                obtain ⟨rfl, e1, e2⟩ := hp_78
                rw [e1, e2] at hw; clear e1 e2
                refine lv_if_eq (tgt := 98) hx hb dX10_goes_77 (by decide) (fun c_80 => ?_) (fun c_80 => ?_)
                · skip
                  have c_80 := bI_f c_80
                  refine lv_iload_n hx hb dX10_goes_98 rfl (lv_at hl 0 rfl) ?_
                  refine m_calli (m_runS (As := [.int a]) (rest := []) X (k_X10_isRow Γ l L (M) a) s_X10_isRow ml_X10_99 hw hS rfl hl.1 ⟨Nat.le_of_ble_eq_true rfl, Nat.le_of_ble_eq_true rfl⟩ (Nat.le_of_ble_eq_true rfl) ⟨Nat.le_of_ble_eq_true rfl, Nat.le_of_ble_eq_true rfl⟩ dX10_goes_99) hS (fun r_82 L1 M1 H locs hp_81 hw hS => ?_)
                  obtain ⟨rfl, e1, e2⟩ := hp_81
                  rw [e1, e2] at hw; clear e1 e2
                  refine lv_if_eq (tgt := 130) hx hb dX10_goes_102 (by decide) (fun c_83 => ?_) (fun c_83 => ?_)
                  · skip
                    have c_83 := bI_f c_83
                    refine lv_iconst (v := 0) hx hb dX10_goes_130 (by decide) ?_
                    exact m_zret (b := r_goes a b) X hr hlk hw hS (Nat.zero_le _) (Nat.zero_le _) (by clear hb hx hl hS hw hnm hlk hr X; first | rfl | (simp_all [bI, r_goes]; done) | (simp_all [bI, r_goes]; rfl)) (⟨rfl, rfl, rfl⟩) dX10_goes_131
                  · skip
                    have c_83 := bI_t c_83
                    refine lv_iload_n hx hb dX10_goes_105 rfl (lv_at hl 1 rfl) ?_
                    refine m_calli (m_runS (As := [.int b]) (rest := []) X (k_X10_isRow Γ l L (M) b) s_X10_isRow ml_X10_99 hw hS rfl hl.1 ⟨Nat.le_of_ble_eq_true rfl, Nat.le_of_ble_eq_true rfl⟩ (Nat.le_of_ble_eq_true rfl) ⟨Nat.le_of_ble_eq_true rfl, Nat.le_of_ble_eq_true rfl⟩ dX10_goes_106) hS (fun r_85 L1 M1 H locs hp_84 hw hS => ?_)
                    obtain ⟨rfl, e1, e2⟩ := hp_84
                    rw [e1, e2] at hw; clear e1 e2
                    refine lv_if_eq (tgt := 130) hx hb dX10_goes_109 (by decide) (fun c_86 => ?_) (fun c_86 => ?_)
                    · skip
                      have c_86 := bI_f c_86
                      refine lv_iconst (v := 0) hx hb dX10_goes_130 (by decide) ?_
                      exact m_zret (b := r_goes a b) X hr hlk hw hS (Nat.zero_le _) (Nat.zero_le _) (by clear hb hx hl hS hw hnm hlk hr X; first | rfl | (simp_all [bI, r_goes]; done) | (simp_all [bI, r_goes]; rfl)) (⟨rfl, rfl, rfl⟩) dX10_goes_131
                    · skip
                      have c_86 := bI_t c_86
                      refine lv_iload_n hx hb dX10_goes_112 rfl (lv_at hl 0 rfl) ?_
                      refine lv_bipush (v := 20) hx hb dX10_goes_113 (by decide) ?_
                      refine lv_isub hx hb dX10_goes_115 ?_
                      refine lv_iload_n hx hb dX10_goes_116 rfl (lv_at hl 1 rfl) ?_
                      refine lv_bipush (v := 20) hx hb dX10_goes_117 (by decide) ?_
                      refine lv_isub hx hb dX10_goes_119 ?_
                      refine m_calli (m_runS (As := [.int (a - 20), .int (b - 20)]) (rest := []) X (k_X10_isUnder Γ l L (M) (a - 20) (b - 20)) s_X10_isUnder ml_X10_111 hw hS rfl hl.1 ⟨Nat.le_of_ble_eq_true rfl, Nat.le_of_ble_eq_true rfl⟩ (Nat.le_of_ble_eq_true rfl) ⟨Nat.le_of_ble_eq_true rfl, Nat.le_of_ble_eq_true rfl⟩ dX10_goes_120) hS (fun r_88 L1 M1 H locs hp_87 hw hS => ?_)
                      obtain ⟨rfl, e1, e2⟩ := hp_87
                      rw [e1, e2] at hw; clear e1 e2
                      refine lv_if_eq (tgt := 130) hx hb dX10_goes_123 (by decide) (fun c_89 => ?_) (fun c_89 => ?_)
                      · skip
                        have c_89 := bI_f c_89
                        refine lv_iconst (v := 0) hx hb dX10_goes_130 (by decide) ?_
                        exact m_zret (b := r_goes a b) X hr hlk hw hS (Nat.zero_le _) (Nat.zero_le _) (by clear hb hx hl hS hw hnm hlk hr X; first | rfl | (simp_all [bI, r_goes]; done) | (simp_all [bI, r_goes]; rfl)) (⟨rfl, rfl, rfl⟩) dX10_goes_131
                      · skip
                        have c_89 := bI_t c_89
                        refine lv_iconst (v := 1) hx hb dX10_goes_126 (by decide) ?_
                        refine lv_goto (tgt := 131) hx hb dX10_goes_127 (by decide) ?_
                        exact m_zret (b := r_goes a b) X hr hlk hw hS (Nat.zero_le _) (Nat.zero_le _) (by clear hb hx hl hS hw hnm hlk hr X; first | rfl | (simp_all [bI, r_goes]; done) | (simp_all [bI, r_goes]; rfl)) (⟨rfl, rfl, rfl⟩) dX10_goes_131
                · skip
                  have c_80 := bI_t c_80
                  refine lv_iload_n hx hb dX10_goes_80 rfl (lv_at hl 1 rfl) ?_
                  refine lv_bipush (v := 10) hx hb dX10_goes_81 (by decide) ?_
                  refine lv_icmp_eq (tgt := 92) hx hb dX10_goes_83 (by decide) (fun c_90 => ?_) (fun c_90 => ?_)
                  · skip
                    refine lv_iconst (v := 1) hx hb dX10_goes_92 (by decide) ?_
                    refine lv_goto (tgt := 97) hx hb dX10_goes_93 (by decide) ?_
                    exact m_zret (b := r_goes a b) X hr hlk hw hS (Nat.zero_le _) (Nat.zero_le _) (by clear hb hx hl hS hw hnm hlk hr X; first | rfl | (simp_all [bI, r_goes]; done) | (simp_all [bI, r_goes]; rfl)) (⟨rfl, rfl, rfl⟩) dX10_goes_97
                  · skip
                    refine lv_iload_n hx hb dX10_goes_86 rfl (lv_at hl 1 rfl) ?_
                    refine lv_bipush (v := 15) hx hb dX10_goes_87 (by decide) ?_
                    refine lv_icmp_le (tgt := 96) hx hb dX10_goes_89 (by decide) (fun c_91 => ?_) (fun c_91 => ?_)
                    · skip
                      refine lv_iconst (v := 0) hx hb dX10_goes_96 (by decide) ?_
                      exact m_zret (b := r_goes a b) X hr hlk hw hS (Nat.zero_le _) (Nat.zero_le _) (by clear hb hx hl hS hw hnm hlk hr X; first | rfl | (simp_all [bI, r_goes]; done) | (simp_all [bI, r_goes]; rfl)) (⟨rfl, rfl, rfl⟩) dX10_goes_97
                    · skip
                      refine lv_iconst (v := 1) hx hb dX10_goes_92 (by decide) ?_
                      refine lv_goto (tgt := 97) hx hb dX10_goes_93 (by decide) ?_
                      exact m_zret (b := r_goes a b) X hr hlk hw hS (Nat.zero_le _) (Nat.zero_le _) (by clear hb hx hl hS hw hnm hlk hr X; first | rfl | (simp_all [bI, r_goes]; done) | (simp_all [bI, r_goes]; rfl)) (⟨rfl, rfl, rfl⟩) dX10_goes_97
          · skip
            have c_50 := bI_t c_50
            refine lv_iload_n hx hb dX10_goes_35 rfl (lv_at hl 1 rfl) ?_
            refine lv_bipush (v := 15) hx hb dX10_goes_36 (by decide) ?_
            refine lv_icmp_gt (tgt := 55) hx hb dX10_goes_38 (by decide) (fun c_92 => ?_) (fun c_92 => ?_)
            · skip
              refine lv_iconst (v := 1) hx hb dX10_goes_55 (by decide) ?_
              refine lv_goto (tgt := 60) hx hb dX10_goes_56 (by decide) ?_
              exact m_zret (b := r_goes a b) X hr hlk hw hS (Nat.zero_le _) (Nat.zero_le _) (by clear hb hx hl hS hw hnm hlk hr X; first | rfl | (simp_all [bI, r_goes]; done) | (simp_all [bI, r_goes]; rfl)) (⟨rfl, rfl, rfl⟩) dX10_goes_60
            · skip
              refine lv_iload_n hx hb dX10_goes_41 rfl (lv_at hl 0 rfl) ?_
              refine lv_bipush (v := 10) hx hb dX10_goes_42 (by decide) ?_
              refine lv_isub hx hb dX10_goes_44 ?_
              refine lv_iload_n hx hb dX10_goes_45 rfl (lv_at hl 1 rfl) ?_
              refine lv_bipush (v := 10) hx hb dX10_goes_46 (by decide) ?_
              refine lv_isub hx hb dX10_goes_48 ?_
              refine m_calli (m_runS (As := [.int (a - 10), .int (b - 10)]) (rest := []) X (k_X10_isUnder Γ l L (M) (a - 10) (b - 10)) s_X10_isUnder ml_X10_111 hw hS rfl hl.1 ⟨Nat.le_of_ble_eq_true rfl, Nat.le_of_ble_eq_true rfl⟩ (Nat.le_of_ble_eq_true rfl) ⟨Nat.le_of_ble_eq_true rfl, Nat.le_of_ble_eq_true rfl⟩ dX10_goes_49) hS (fun r_94 L1 M1 H locs hp_93 hw hS => ?_)
              obtain ⟨rfl, e1, e2⟩ := hp_93
              rw [e1, e2] at hw; clear e1 e2
              refine lv_if_eq (tgt := 59) hx hb dX10_goes_52 (by decide) (fun c_95 => ?_) (fun c_95 => ?_)
              · skip
                have c_95 := bI_f c_95
                refine lv_iconst (v := 0) hx hb dX10_goes_59 (by decide) ?_
                exact m_zret (b := r_goes a b) X hr hlk hw hS (Nat.zero_le _) (Nat.zero_le _) (by clear hb hx hl hS hw hnm hlk hr X; first | rfl | (simp_all [bI, r_goes]; done) | (simp_all [bI, r_goes]; rfl)) (⟨rfl, rfl, rfl⟩) dX10_goes_60
              · skip
                have c_95 := bI_t c_95
                refine lv_iconst (v := 1) hx hb dX10_goes_55 (by decide) ?_
                refine lv_goto (tgt := 60) hx hb dX10_goes_56 (by decide) ?_
                exact m_zret (b := r_goes a b) X hr hlk hw hS (Nat.zero_le _) (Nat.zero_le _) (by clear hb hx hl hS hw hnm hlk hr X; first | rfl | (simp_all [bI, r_goes]; done) | (simp_all [bI, r_goes]; rfl)) (⟨rfl, rfl, rfl⟩) dX10_goes_60
      · skip
        refine lv_iload_n hx hb dX10_goes_16 rfl (lv_at hl 1 rfl) ?_
        refine m_calli (m_runS (As := [.int b]) (rest := []) X (k_X10_isThing Γ l L (M) b) s_X10_isThing ml_X10_108 hw hS rfl hl.1 ⟨Nat.le_of_ble_eq_true rfl, Nat.le_of_ble_eq_true rfl⟩ (Nat.le_of_ble_eq_true rfl) ⟨Nat.le_of_ble_eq_true rfl, Nat.le_of_ble_eq_true rfl⟩ dX10_goes_17) hS (fun r_97 L1 M1 H locs hp_96 hw hS => ?_)
        obtain ⟨rfl, e1, e2⟩ := hp_96
        rw [e1, e2] at hw; clear e1 e2
        exact m_zret (b := r_goes a b) X hr hlk hw hS (Nat.zero_le _) (Nat.zero_le _) (by clear hb hx hl hS hw hnm hlk hr X; first | rfl | (simp_all [bI, r_goes]; done) | (simp_all [bI, r_goes]; rfl)) (⟨rfl, rfl, rfl⟩) dX10_goes_20
    · skip
      refine lv_iconst (v := 1) hx hb dX10_goes_9 (by decide) ?_
      exact m_zret (b := r_goes a b) X hr hlk hw hS (Nat.zero_le _) (Nat.zero_le _) (by clear hb hx hl hS hw hnm hlk hr X; first | rfl | (simp_all [bI, r_goes]; done) | (simp_all [bI, r_goes]; rfl)) (⟨rfl, rfl, rfl⟩) dX10_goes_10
theorem s_X10_common : mSm yX10_common cX10_common 3 (some .int) 2 := ⟨cd_X10_common, st_X10_common, ini_X10, by decide, by decide, by decide +kernel⟩
set_option maxHeartbeats 4000000 in
set_option maxRecDepth 100000 in
theorem k_X10_common (Γ : mG) (l : Launch) (L : mI → Nat) (M : mM) (a : Int32) (b : Int32) : mMet Γ l yX10_common cX10_common 3 (some .int) { frames := 2, cells := 0, slots := 0, locals := 42 } [.int a, .int b] L M (mQi Γ (fun r L1 M1 => r = r_common a b ∧ L1 = L ∧ M1 = M)) := by
  refine m_start (by decide) (Nat.le_of_ble_eq_true rfl) ?_
  intro p e s m args below meth c A ls X hr hlk hnm hw hS hl
  have hx := X.1.1
  have hb := X.1.2.1
  have hl : lv_has ls 3 [(0, .int a), (1, .int b)] := hl
  have KL : ∀ (n : Nat) (z : Int32) (H : Heap) (locs : List Loc) (ls : Array Slot), r_rk2 z ≤ n → r_common a b = r_com n z b → mW Γ.1 vwCl A L M H → va_S A s.heap H locs → lv_has ls 3 [(2, .int z), (0, .int a), (1, .int b)] → W p l e { frames := 2, cells := 0, slots := 0, locals := 42 } s m args below meth c H locs 0 0 (MQ below (mQi Γ (fun r L1 M1 => r = r_common a b ∧ L1 = L ∧ M1 = M) A) args s 0 0 A) (F0 m 11 ls []) := by
    intro n
    induction n with
    | zero =>
      intro z H locs ls hn he hw hS hl
      refine lv_iload_n hx hb dX10_common_11 rfl (lv_at hl 2 rfl) ?_
      refine lv_iload_n hx hb dX10_common_12 rfl (lv_at hl 0 rfl) ?_
      refine m_calli (m_runS (As := [.int b, .int z]) (rest := []) X (k_X10_isUnder Γ l L (M) b z) s_X10_isUnder ml_X10_111 hw hS rfl hl.1 ⟨Nat.le_of_ble_eq_true rfl, Nat.le_of_ble_eq_true rfl⟩ (Nat.le_of_ble_eq_true rfl) ⟨Nat.le_of_ble_eq_true rfl, Nat.le_of_ble_eq_true rfl⟩ dX10_common_13) hS (fun r_2 L1 M1 H locs hp_1 hw hS => ?_)
      obtain ⟨rfl, e1, e2⟩ := hp_1
      rw [e1, e2] at hw; clear e1 e2
      refine lv_if_ne (tgt := 27) hx hb dX10_common_16 (by decide) (fun c_3 => ?_) (fun c_3 => ?_)
      · skip
        have c_3 := bI_t c_3
        refine lv_iload_n hx hb dX10_common_27 rfl (lv_at hl 0 rfl) ?_
        exact m_iret X hr hlk hw hS (Nat.zero_le _) (Nat.zero_le _) (⟨by rw [he]; clear he hb hx hl hS hw hnm hlk hr X; first | rfl | (simp_all [bI, r_com]; done) | (simp_all [bI, r_com]; rfl), rfl, rfl⟩) dX10_common_28
      · skip
        have c_3 := bI_f c_3
        refine lv_iload_n hx hb dX10_common_19 rfl (lv_at hl 0 rfl) ?_
        refine m_calli (m_runS (As := [.int z]) (rest := []) X (k_X10_above Γ l L (M) z) s_X10_above ml_X10_83 hw hS rfl hl.1 ⟨Nat.le_of_ble_eq_true rfl, Nat.le_of_ble_eq_true rfl⟩ (Nat.le_of_ble_eq_true rfl) ⟨Nat.le_of_ble_eq_true rfl, Nat.le_of_ble_eq_true rfl⟩ dX10_common_20) hS (fun r_5 L1 M1 H locs hp_4 hw hS => ?_)
        obtain ⟨rfl, e1, e2⟩ := hp_4
        rw [e1, e2] at hw; clear e1 e2
        refine lv_istore_n (lv' := [(2, .int (r_above z)), (0, .int a), (1, .int b)]) hx hb dX10_common_23 rfl hl (by decide) rfl (fun ls hl => ?_)
        refine lv_goto (tgt := 11) hx hb dX10_common_24 (by decide) ?_
        exact absurd c_3 (by rw [r_rk2_0 hn]; simp [r_under])
    | succ n ih =>
      intro z H locs ls hn he hw hS hl
      refine lv_iload_n hx hb dX10_common_11 rfl (lv_at hl 2 rfl) ?_
      refine lv_iload_n hx hb dX10_common_12 rfl (lv_at hl 0 rfl) ?_
      refine m_calli (m_runS (As := [.int b, .int z]) (rest := []) X (k_X10_isUnder Γ l L (M) b z) s_X10_isUnder ml_X10_111 hw hS rfl hl.1 ⟨Nat.le_of_ble_eq_true rfl, Nat.le_of_ble_eq_true rfl⟩ (Nat.le_of_ble_eq_true rfl) ⟨Nat.le_of_ble_eq_true rfl, Nat.le_of_ble_eq_true rfl⟩ dX10_common_13) hS (fun r_7 L1 M1 H locs hp_6 hw hS => ?_)
      obtain ⟨rfl, e1, e2⟩ := hp_6
      rw [e1, e2] at hw; clear e1 e2
      refine lv_if_ne (tgt := 27) hx hb dX10_common_16 (by decide) (fun c_8 => ?_) (fun c_8 => ?_)
      · skip
        have c_8 := bI_t c_8
        refine lv_iload_n hx hb dX10_common_27 rfl (lv_at hl 0 rfl) ?_
        exact m_iret X hr hlk hw hS (Nat.zero_le _) (Nat.zero_le _) (⟨by rw [he]; clear he hb hx hl hS hw hnm hlk hr X; first | rfl | (simp_all [bI, r_com]; done) | (simp_all [bI, r_com]; rfl), rfl, rfl⟩) dX10_common_28
      · skip
        have c_8 := bI_f c_8
        refine lv_iload_n hx hb dX10_common_19 rfl (lv_at hl 0 rfl) ?_
        refine m_calli (m_runS (As := [.int z]) (rest := []) X (k_X10_above Γ l L (M) z) s_X10_above ml_X10_83 hw hS rfl hl.1 ⟨Nat.le_of_ble_eq_true rfl, Nat.le_of_ble_eq_true rfl⟩ (Nat.le_of_ble_eq_true rfl) ⟨Nat.le_of_ble_eq_true rfl, Nat.le_of_ble_eq_true rfl⟩ dX10_common_20) hS (fun r_10 L1 M1 H locs hp_9 hw hS => ?_)
        obtain ⟨rfl, e1, e2⟩ := hp_9
        rw [e1, e2] at hw; clear e1 e2
        refine lv_istore_n (lv' := [(2, .int (r_above z)), (0, .int a), (1, .int b)]) hx hb dX10_common_23 rfl hl (by decide) rfl (fun ls hl => ?_)
        refine lv_goto (tgt := 11) hx hb dX10_common_24 (by decide) ?_
        exact ih _ H locs ls (r_rk2_dn c_8 hn) (by rw [he]; clear hb hx hl hS hw hnm hlk hr X he ih; simp_all [r_com]) hw hS hl
  refine lv_iload_n hx hb dX10_common_0 rfl (lv_at hl 0 rfl) ?_
  refine lv_iconst (v := 5) hx hb dX10_common_1 (by decide) ?_
  refine lv_icmp_le (tgt := 9) hx hb dX10_common_2 (by decide) (fun c_11 => ?_) (fun c_11 => ?_)
  · skip
    refine lv_iload_n hx hb dX10_common_9 rfl (lv_at hl 0 rfl) ?_
    refine lv_istore_n (lv' := [(2, .int a), (0, .int a), (1, .int b)]) hx hb dX10_common_10 rfl hl (by decide) rfl (fun ls hl => ?_)
    exact KL 5 _ _ _ ls (by first | exact r_rk2_5 c_11 | exact Nat.zero_le _) (by first | (simp [r_common, Int32.not_lt.mpr c_11]; done) | (simp [r_common, Int32.not_le.mp c_11]; done)) hw hS hl
  · skip
    refine lv_iconst (v := 0) hx hb dX10_common_5 (by decide) ?_
    refine lv_goto (tgt := 10) hx hb dX10_common_6 (by decide) ?_
    refine lv_istore_n (lv' := [(2, .int 0), (0, .int a), (1, .int b)]) hx hb dX10_common_10 rfl hl (by decide) rfl (fun ls hl => ?_)
    exact KL 5 _ _ _ ls (by first | exact r_rk2_5 c_11 | exact Nat.zero_le _) (by first | (simp [r_common, Int32.not_lt.mpr c_11]; done) | (simp [r_common, Int32.not_le.mp c_11]; done)) hw hS hl
theorem s_X10_isOnePlace : mSm yX10_isOnePlace cX10_isOnePlace 1 (some .boolean) 1 := ⟨cd_X10_isOnePlace, st_X10_isOnePlace, ini_X10, by decide, by decide, by decide +kernel⟩
set_option maxHeartbeats 4000000 in
set_option maxRecDepth 100000 in
theorem k_X10_isOnePlace (Γ : mG) (l : Launch) (L : mI → Nat) (M : mM) (a : Int32) : mMet Γ l yX10_isOnePlace cX10_isOnePlace 1 (some .boolean) { frames := 0, cells := 0, slots := 0, locals := 0 } [.int a] L M (mQi Γ (fun r L1 M1 => r = bI (r_one a) ∧ L1 = L ∧ M1 = M)) := by
  refine m_start (by decide) (Nat.le_of_ble_eq_true rfl) ?_
  intro p e s m args below meth c A ls X hr hlk hnm hw hS hl
  have hx := X.1.1
  have hb := X.1.2.1
  have hl : lv_has ls 1 [(0, .int a)] := hl
  refine lv_iload_n hx hb dX10_isOnePlace_0 rfl (lv_at hl 0 rfl) ?_
  refine lv_iconst (v := 1) hx hb dX10_isOnePlace_1 (by decide) ?_
  refine lv_icmp_eq (tgt := 10) hx hb dX10_isOnePlace_2 (by decide) (fun c_1 => ?_) (fun c_1 => ?_)
  · skip
    refine lv_iconst (v := 1) hx hb dX10_isOnePlace_10 (by decide) ?_
    refine lv_goto (tgt := 15) hx hb dX10_isOnePlace_11 (by decide) ?_
    exact m_zret (b := r_one a) X hr hlk hw hS (Nat.zero_le _) (Nat.zero_le _) (by clear hb hx hl hS hw hnm hlk hr X; first | rfl | (simp_all [bI, r_one]; done) | (simp_all [bI, r_one]; rfl)) (⟨rfl, rfl, rfl⟩) dX10_isOnePlace_15
  · skip
    refine lv_iload_n hx hb dX10_isOnePlace_5 rfl (lv_at hl 0 rfl) ?_
    refine lv_iconst (v := 4) hx hb dX10_isOnePlace_6 (by decide) ?_
    refine lv_icmp_lt (tgt := 14) hx hb dX10_isOnePlace_7 (by decide) (fun c_2 => ?_) (fun c_2 => ?_)
    · skip
      refine lv_iconst (v := 0) hx hb dX10_isOnePlace_14 (by decide) ?_
      exact m_zret (b := r_one a) X hr hlk hw hS (Nat.zero_le _) (Nat.zero_le _) (by clear hb hx hl hS hw hnm hlk hr X; first | rfl | (simp_all [bI, r_one]; done) | (simp_all [bI, r_one]; rfl)) (⟨rfl, rfl, rfl⟩) dX10_isOnePlace_15
    · skip
      refine lv_iconst (v := 1) hx hb dX10_isOnePlace_10 (by decide) ?_
      refine lv_goto (tgt := 15) hx hb dX10_isOnePlace_11 (by decide) ?_
      exact m_zret (b := r_one a) X hr hlk hw hS (Nat.zero_le _) (Nat.zero_le _) (by clear hb hx hl hS hw hnm hlk hr X; first | rfl | (simp_all [bI, r_one]; done) | (simp_all [bI, r_one]; rfl)) (⟨rfl, rfl, rfl⟩) dX10_isOnePlace_15
theorem s_X10_joined : mSm yX10_joined cX10_joined 2 (some .int) 2 := ⟨cd_X10_joined, st_X10_joined, ini_X10, by decide, by decide, by decide +kernel⟩
set_option maxHeartbeats 4000000 in
set_option maxRecDepth 100000 in
theorem k_X10_joined (Γ : mG) (l : Launch) (L : mI → Nat) (M : mM) (a : Int32) (b : Int32) : mMet Γ l yX10_joined cX10_joined 2 (some .int) { frames := 3, cells := 0, slots := 0, locals := 65 } [.int a, .int b] L M (mQi Γ (fun r L1 M1 => r = r_joined a b ∧ L1 = L ∧ M1 = M)) := by
  refine m_start (by decide) (Nat.le_of_ble_eq_true rfl) ?_
  intro p e s m args below meth c A ls X hr hlk hnm hw hS hl
  have hx := X.1.1
  have hb := X.1.2.1
  have hl : lv_has ls 2 [(0, .int a), (1, .int b)] := hl
  have K93 : ∀ (H : Heap) (locs : List Loc) (ls : Array Slot), r_joined a b = r_join3 a b → mW Γ.1 vwCl A L M H → va_S A s.heap H locs → lv_has ls 2 [(0, .int a), (1, .int b)] → W p l e { frames := 3, cells := 0, slots := 0, locals := 65 } s m args below meth c H locs 0 0 (MQ below (mQi Γ (fun r L1 M1 => r = r_joined a b ∧ L1 = L ∧ M1 = M) A) args s 0 0 A) (F0 m 93 ls []) := by
    intro H locs ls he hw hS hl
    refine lv_iload_n hx hb dX10_joined_93 rfl (lv_at hl 0 rfl) ?_
    refine m_calli (m_runS (As := [.int a]) (rest := []) X (k_X10_isThing Γ l L (M) a) s_X10_isThing ml_X10_108 hw hS rfl hl.1 ⟨Nat.le_of_ble_eq_true rfl, Nat.le_of_ble_eq_true rfl⟩ (Nat.le_of_ble_eq_true rfl) ⟨Nat.le_of_ble_eq_true rfl, Nat.le_of_ble_eq_true rfl⟩ dX10_joined_94) hS (fun r_2 L1 M1 H locs hp_1 hw hS => ?_)
    obtain ⟨rfl, e1, e2⟩ := hp_1
    rw [e1, e2] at hw; clear e1 e2
    refine lv_if_eq (tgt := 112) hx hb dX10_joined_97 (by decide) (fun c_3 => ?_) (fun c_3 => ?_)
    · skip
      have c_3 := bI_f c_3
      refine lv_iconst (v := 0) hx hb dX10_joined_112 (by decide) ?_
      exact m_iret X hr hlk hw hS (Nat.zero_le _) (Nat.zero_le _) (⟨by rw [he]; clear he  hb hx hl hS hw hnm hlk hr X; first | rfl | (simp_all [bI, r_join3]; done) | (simp_all [bI, r_join3]; rfl), rfl, rfl⟩) dX10_joined_113
    · skip
      have c_3 := bI_t c_3
      refine lv_iload_n hx hb dX10_joined_100 rfl (lv_at hl 1 rfl) ?_
      refine m_calli (m_runS (As := [.int b]) (rest := []) X (k_X10_isThing Γ l L (M) b) s_X10_isThing ml_X10_108 hw hS rfl hl.1 ⟨Nat.le_of_ble_eq_true rfl, Nat.le_of_ble_eq_true rfl⟩ (Nat.le_of_ble_eq_true rfl) ⟨Nat.le_of_ble_eq_true rfl, Nat.le_of_ble_eq_true rfl⟩ dX10_joined_101) hS (fun r_5 L1 M1 H locs hp_4 hw hS => ?_)
      obtain ⟨rfl, e1, e2⟩ := hp_4
      rw [e1, e2] at hw; clear e1 e2
      refine lv_if_eq (tgt := 112) hx hb dX10_joined_104 (by decide) (fun c_6 => ?_) (fun c_6 => ?_)
      · skip
        have c_6 := bI_f c_6
        refine lv_iconst (v := 0) hx hb dX10_joined_112 (by decide) ?_
        exact m_iret X hr hlk hw hS (Nat.zero_le _) (Nat.zero_le _) (⟨by rw [he]; clear he  hb hx hl hS hw hnm hlk hr X; first | rfl | (simp_all [bI, r_join3]; done) | (simp_all [bI, r_join3]; rfl), rfl, rfl⟩) dX10_joined_113
      · skip
        have c_6 := bI_t c_6
        refine lv_bipush (v := 10) hx hb dX10_joined_107 (by decide) ?_
        refine lv_goto (tgt := 113) hx hb dX10_joined_109 (by decide) ?_
        exact m_iret X hr hlk hw hS (Nat.zero_le _) (Nat.zero_le _) (⟨by rw [he]; clear he  hb hx hl hS hw hnm hlk hr X; first | rfl | (simp_all [bI, r_join3]; done) | (simp_all [bI, r_join3]; rfl), rfl, rfl⟩) dX10_joined_113
  have K64 : ∀ (H : Heap) (locs : List Loc) (ls : Array Slot), r_joined a b = r_join2 a b → mW Γ.1 vwCl A L M H → va_S A s.heap H locs → lv_has ls 2 [(0, .int a), (1, .int b)] → W p l e { frames := 3, cells := 0, slots := 0, locals := 65 } s m args below meth c H locs 0 0 (MQ below (mQi Γ (fun r L1 M1 => r = r_joined a b ∧ L1 = L ∧ M1 = M) A) args s 0 0 A) (F0 m 64 ls []) := by
    intro H locs ls he hw hS hl
    refine lv_iload_n hx hb dX10_joined_64 rfl (lv_at hl 0 rfl) ?_
    refine m_calli (m_runS (As := [.int a]) (rest := []) X (k_X10_isRow Γ l L (M) a) s_X10_isRow ml_X10_99 hw hS rfl hl.1 ⟨Nat.le_of_ble_eq_true rfl, Nat.le_of_ble_eq_true rfl⟩ (Nat.le_of_ble_eq_true rfl) ⟨Nat.le_of_ble_eq_true rfl, Nat.le_of_ble_eq_true rfl⟩ dX10_joined_65) hS (fun r_8 L1 M1 H locs hp_7 hw hS => ?_)
    obtain ⟨rfl, e1, e2⟩ := hp_7
    rw [e1, e2] at hw; clear e1 e2
    refine lv_if_eq (tgt := 93) hx hb dX10_joined_68 (by decide) (fun c_9 => ?_) (fun c_9 => ?_)
    · skip
      have c_9 := bI_f c_9
      exact K93 H locs ls (by rw [he]; clear hb hx hl hS hw hnm hlk hr X he; simp_all [r_join2]) hw hS hl
    · skip
      have c_9 := bI_t c_9
      refine lv_iload_n hx hb dX10_joined_71 rfl (lv_at hl 1 rfl) ?_
      refine m_calli (m_runS (As := [.int b]) (rest := []) X (k_X10_isRow Γ l L (M) b) s_X10_isRow ml_X10_99 hw hS rfl hl.1 ⟨Nat.le_of_ble_eq_true rfl, Nat.le_of_ble_eq_true rfl⟩ (Nat.le_of_ble_eq_true rfl) ⟨Nat.le_of_ble_eq_true rfl, Nat.le_of_ble_eq_true rfl⟩ dX10_joined_72) hS (fun r_11 L1 M1 H locs hp_10 hw hS => ?_)
      obtain ⟨rfl, e1, e2⟩ := hp_10
      rw [e1, e2] at hw; clear e1 e2
      refine lv_if_eq (tgt := 93) hx hb dX10_joined_75 (by decide) (fun c_12 => ?_) (fun c_12 => ?_)
      · skip
        have c_12 := bI_f c_12
        exact K93 H locs ls (by rw [he]; clear hb hx hl hS hw hnm hlk hr X he; simp_all [r_join2]) hw hS hl
      · skip
        have c_12 := bI_t c_12
        refine lv_bipush (v := 20) hx hb dX10_joined_78 (by decide) ?_
        refine lv_iload_n hx hb dX10_joined_80 rfl (lv_at hl 0 rfl) ?_
        refine lv_bipush (v := 20) hx hb dX10_joined_81 (by decide) ?_
        refine lv_isub hx hb dX10_joined_83 ?_
        refine lv_iload_n hx hb dX10_joined_84 rfl (lv_at hl 1 rfl) ?_
        refine lv_bipush (v := 20) hx hb dX10_joined_85 (by decide) ?_
        refine lv_isub hx hb dX10_joined_87 ?_
        refine m_calli (m_runS (As := [.int (a - 20), .int (b - 20)]) (rest := [.int 20]) X (k_X10_common Γ l L (M) (a - 20) (b - 20)) s_X10_common ml_X10_115 hw hS rfl hl.1 ⟨Nat.le_of_ble_eq_true rfl, Nat.le_of_ble_eq_true rfl⟩ (Nat.le_of_ble_eq_true rfl) ⟨Nat.le_of_ble_eq_true rfl, Nat.le_of_ble_eq_true rfl⟩ dX10_joined_88) hS (fun r_14 L1 M1 H locs hp_13 hw hS => ?_)
        obtain ⟨rfl, e1, e2⟩ := hp_13
        rw [e1, e2] at hw; clear e1 e2
        refine lv_iadd hx hb dX10_joined_91 ?_
        exact m_iret X hr hlk hw hS (Nat.zero_le _) (Nat.zero_le _) (⟨by rw [he]; clear he K93 hb hx hl hS hw hnm hlk hr X; first | rfl | (simp_all [bI, r_join2]; done) | (simp_all [bI, r_join2]; rfl), rfl, rfl⟩) dX10_joined_92
  have K35 : ∀ (H : Heap) (locs : List Loc) (ls : Array Slot), r_joined a b = r_join1 a b → mW Γ.1 vwCl A L M H → va_S A s.heap H locs → lv_has ls 2 [(0, .int a), (1, .int b)] → W p l e { frames := 3, cells := 0, slots := 0, locals := 65 } s m args below meth c H locs 0 0 (MQ below (mQi Γ (fun r L1 M1 => r = r_joined a b ∧ L1 = L ∧ M1 = M) A) args s 0 0 A) (F0 m 35 ls []) := by
    intro H locs ls he hw hS hl
    refine lv_iload_n hx hb dX10_joined_35 rfl (lv_at hl 0 rfl) ?_
    refine m_calli (m_runS (As := [.int a]) (rest := []) X (k_X10_isObject Γ l L (M) a) s_X10_isObject ml_X10_95 hw hS rfl hl.1 ⟨Nat.le_of_ble_eq_true rfl, Nat.le_of_ble_eq_true rfl⟩ (Nat.le_of_ble_eq_true rfl) ⟨Nat.le_of_ble_eq_true rfl, Nat.le_of_ble_eq_true rfl⟩ dX10_joined_36) hS (fun r_16 L1 M1 H locs hp_15 hw hS => ?_)
    obtain ⟨rfl, e1, e2⟩ := hp_15
    rw [e1, e2] at hw; clear e1 e2
    refine lv_if_eq (tgt := 64) hx hb dX10_joined_39 (by decide) (fun c_17 => ?_) (fun c_17 => ?_)
    · skip
      have c_17 := bI_f c_17
      exact K64 H locs ls (by rw [he]; clear hb hx hl hS hw hnm hlk hr X he; simp_all [r_join1]) hw hS hl
    · skip
      have c_17 := bI_t c_17
      refine lv_iload_n hx hb dX10_joined_42 rfl (lv_at hl 1 rfl) ?_
      refine m_calli (m_runS (As := [.int b]) (rest := []) X (k_X10_isObject Γ l L (M) b) s_X10_isObject ml_X10_95 hw hS rfl hl.1 ⟨Nat.le_of_ble_eq_true rfl, Nat.le_of_ble_eq_true rfl⟩ (Nat.le_of_ble_eq_true rfl) ⟨Nat.le_of_ble_eq_true rfl, Nat.le_of_ble_eq_true rfl⟩ dX10_joined_43) hS (fun r_19 L1 M1 H locs hp_18 hw hS => ?_)
      obtain ⟨rfl, e1, e2⟩ := hp_18
      rw [e1, e2] at hw; clear e1 e2
      refine lv_if_eq (tgt := 64) hx hb dX10_joined_46 (by decide) (fun c_20 => ?_) (fun c_20 => ?_)
      · skip
        have c_20 := bI_f c_20
        exact K64 H locs ls (by rw [he]; clear hb hx hl hS hw hnm hlk hr X he; simp_all [r_join1]) hw hS hl
      · skip
        have c_20 := bI_t c_20
        refine lv_bipush (v := 10) hx hb dX10_joined_49 (by decide) ?_
        refine lv_iload_n hx hb dX10_joined_51 rfl (lv_at hl 0 rfl) ?_
        refine lv_bipush (v := 10) hx hb dX10_joined_52 (by decide) ?_
        refine lv_isub hx hb dX10_joined_54 ?_
        refine lv_iload_n hx hb dX10_joined_55 rfl (lv_at hl 1 rfl) ?_
        refine lv_bipush (v := 10) hx hb dX10_joined_56 (by decide) ?_
        refine lv_isub hx hb dX10_joined_58 ?_
        refine m_calli (m_runS (As := [.int (a - 10), .int (b - 10)]) (rest := [.int 10]) X (k_X10_common Γ l L (M) (a - 10) (b - 10)) s_X10_common ml_X10_115 hw hS rfl hl.1 ⟨Nat.le_of_ble_eq_true rfl, Nat.le_of_ble_eq_true rfl⟩ (Nat.le_of_ble_eq_true rfl) ⟨Nat.le_of_ble_eq_true rfl, Nat.le_of_ble_eq_true rfl⟩ dX10_joined_59) hS (fun r_22 L1 M1 H locs hp_21 hw hS => ?_)
        obtain ⟨rfl, e1, e2⟩ := hp_21
        rw [e1, e2] at hw; clear e1 e2
        refine lv_iadd hx hb dX10_joined_62 ?_
        exact m_iret X hr hlk hw hS (Nat.zero_le _) (Nat.zero_le _) (⟨by rw [he]; clear he K93 K64 hb hx hl hS hw hnm hlk hr X; first | rfl | (simp_all [bI, r_join1]; done) | (simp_all [bI, r_join1]; rfl), rfl, rfl⟩) dX10_joined_63
  refine lv_iload_n hx hb dX10_joined_0 rfl (lv_at hl 0 rfl) ?_
  refine lv_iload_n hx hb dX10_joined_1 rfl (lv_at hl 1 rfl) ?_
  refine lv_icmp_ne (tgt := 7) hx hb dX10_joined_2 (by decide) (fun c_23 => ?_) (fun c_23 => ?_)
  · skip
    refine lv_iload_n hx hb dX10_joined_7 rfl (lv_at hl 0 rfl) ?_
    refine lv_iconst (v := 4) hx hb dX10_joined_8 (by decide) ?_
    refine lv_icmp_ne (tgt := 21) hx hb dX10_joined_9 (by decide) (fun c_24 => ?_) (fun c_24 => ?_)
    · skip
      refine lv_iload_n hx hb dX10_joined_21 rfl (lv_at hl 1 rfl) ?_
      refine lv_iconst (v := 4) hx hb dX10_joined_22 (by decide) ?_
      refine lv_icmp_ne (tgt := 35) hx hb dX10_joined_23 (by decide) (fun c_25 => ?_) (fun c_25 => ?_)
      · skip
        exact K35 _ _ ls (by clear K35 K64 K93 hb hx hl hS hw hnm hlk hr X; simp_all [r_joined]) hw hS hl
      · skip
        refine lv_iload_n hx hb dX10_joined_26 rfl (lv_at hl 0 rfl) ?_
        refine m_calli (m_runS (As := [.int a]) (rest := []) X (k_X10_isThing Γ l L (M) a) s_X10_isThing ml_X10_108 hw hS rfl hl.1 ⟨Nat.le_of_ble_eq_true rfl, Nat.le_of_ble_eq_true rfl⟩ (Nat.le_of_ble_eq_true rfl) ⟨Nat.le_of_ble_eq_true rfl, Nat.le_of_ble_eq_true rfl⟩ dX10_joined_27) hS (fun r_27 L1 M1 H locs hp_26 hw hS => ?_)
        obtain ⟨rfl, e1, e2⟩ := hp_26
        rw [e1, e2] at hw; clear e1 e2
        refine lv_if_eq (tgt := 35) hx hb dX10_joined_30 (by decide) (fun c_28 => ?_) (fun c_28 => ?_)
        · skip
          have c_28 := bI_f c_28
          exact K35 _ _ ls (by clear K35 K64 K93 hb hx hl hS hw hnm hlk hr X; simp_all [r_joined]) hw hS hl
        · skip
          have c_28 := bI_t c_28
          refine lv_iload_n hx hb dX10_joined_33 rfl (lv_at hl 0 rfl) ?_
          exact m_iret X hr hlk hw hS (Nat.zero_le _) (Nat.zero_le _) (⟨by clear K35 K64 K93 hb hx hl hS hw hnm hlk hr X; first | rfl | (simp_all [bI, r_joined]; done) | (simp_all [bI, r_joined]; rfl), rfl, rfl⟩) dX10_joined_34
    · skip
      refine lv_iload_n hx hb dX10_joined_12 rfl (lv_at hl 1 rfl) ?_
      refine m_calli (m_runS (As := [.int b]) (rest := []) X (k_X10_isThing Γ l L (M) b) s_X10_isThing ml_X10_108 hw hS rfl hl.1 ⟨Nat.le_of_ble_eq_true rfl, Nat.le_of_ble_eq_true rfl⟩ (Nat.le_of_ble_eq_true rfl) ⟨Nat.le_of_ble_eq_true rfl, Nat.le_of_ble_eq_true rfl⟩ dX10_joined_13) hS (fun r_30 L1 M1 H locs hp_29 hw hS => ?_)
      obtain ⟨rfl, e1, e2⟩ := hp_29
      rw [e1, e2] at hw; clear e1 e2
      refine lv_if_eq (tgt := 21) hx hb dX10_joined_16 (by decide) (fun c_31 => ?_) (fun c_31 => ?_)
      · skip
        have c_31 := bI_f c_31
        refine lv_iload_n hx hb dX10_joined_21 rfl (lv_at hl 1 rfl) ?_
        refine lv_iconst (v := 4) hx hb dX10_joined_22 (by decide) ?_
        refine lv_icmp_ne (tgt := 35) hx hb dX10_joined_23 (by decide) (fun c_32 => ?_) (fun c_32 => ?_)
        · skip
          exact K35 _ _ ls (by clear K35 K64 K93 hb hx hl hS hw hnm hlk hr X; simp_all [r_joined]) hw hS hl
        · skip
          refine lv_iload_n hx hb dX10_joined_26 rfl (lv_at hl 0 rfl) ?_
          refine m_calli (m_runS (As := [.int a]) (rest := []) X (k_X10_isThing Γ l L (M) a) s_X10_isThing ml_X10_108 hw hS rfl hl.1 ⟨Nat.le_of_ble_eq_true rfl, Nat.le_of_ble_eq_true rfl⟩ (Nat.le_of_ble_eq_true rfl) ⟨Nat.le_of_ble_eq_true rfl, Nat.le_of_ble_eq_true rfl⟩ dX10_joined_27) hS (fun r_34 L1 M1 H locs hp_33 hw hS => ?_)
          obtain ⟨rfl, e1, e2⟩ := hp_33
          rw [e1, e2] at hw; clear e1 e2
          refine lv_if_eq (tgt := 35) hx hb dX10_joined_30 (by decide) (fun c_35 => ?_) (fun c_35 => ?_)
          · skip
            have c_35 := bI_f c_35
            exact K35 _ _ ls (by clear K35 K64 K93 hb hx hl hS hw hnm hlk hr X; simp_all [r_joined]) hw hS hl
          · skip
            have c_35 := bI_t c_35
            refine lv_iload_n hx hb dX10_joined_33 rfl (lv_at hl 0 rfl) ?_
            exact m_iret X hr hlk hw hS (Nat.zero_le _) (Nat.zero_le _) (⟨by clear K35 K64 K93 hb hx hl hS hw hnm hlk hr X; first | rfl | (simp_all [bI, r_joined]; done) | (simp_all [bI, r_joined]; rfl), rfl, rfl⟩) dX10_joined_34
      · skip
        have c_31 := bI_t c_31
        refine lv_iload_n hx hb dX10_joined_19 rfl (lv_at hl 1 rfl) ?_
        exact m_iret X hr hlk hw hS (Nat.zero_le _) (Nat.zero_le _) (⟨by clear K35 K64 K93 hb hx hl hS hw hnm hlk hr X; first | rfl | (simp_all [bI, r_joined]; done) | (simp_all [bI, r_joined]; rfl), rfl, rfl⟩) dX10_joined_20
  · skip
    refine lv_iload_n hx hb dX10_joined_5 rfl (lv_at hl 0 rfl) ?_
    exact m_iret X hr hlk hw hS (Nat.zero_le _) (Nat.zero_le _) (⟨by clear K35 K64 K93 hb hx hl hS hw hnm hlk hr X; first | rfl | (simp_all [bI, r_joined]; done) | (simp_all [bI, r_joined]; rfl), rfl, rfl⟩) dX10_joined_6
end
section
/-! THE HAND: what stands at an instruction: 16 places (8 locals, then the stack) and the depth -/
abbrev PL : Type := (Nat → Int32) × Nat
def sH (x : RS) (q : PL) : RS := (upd x.1 15 (nI q.2), va_up x.2.1 14 q.1, x.2.2)
theorem upd_upd (f : Nat → Int32) (k : Nat) (a b : Int32) : upd (upd f k a) k b = upd f k b := by
  funext j
  by_cases h : j = k
  · subst h; simp [upd]
  · simp [upd, h]
theorem va_upup {α : Type} (f : Nat → α) (k : Nat) (a b : α) : va_up (va_up f k a) k b = va_up f k b := by
  funext j
  by_cases h : j = k
  · subst h; simp [va_up]
  · simp [va_up, h]
theorem sH_sS (x : RS) (q : PL) (d : Nat) : sS (sH x q) 15 (nI d) = sH x (q.1, d) := by
  unfold sS sH
  rw [upd_upd]
theorem sH_sA (x : RS) (q : PL) (n : Nat) (v : Int32) : sA (sH x q) 14 n v = sH x (upd q.1 n v, q.2) := by
  unfold sA sH
  have e : va_up x.2.1 14 q.1 14 = q.1 := by simp [va_up]
  show (_, va_up (va_up x.2.1 14 q.1) 14 (upd (va_up x.2.1 14 q.1 14) n v), _) = _
  rw [e, va_upup]
theorem sH_sH (x : RS) (q q' : PL) : sH (sH x q) q' = sH x q' := by
  unfold sH
  show (upd (upd x.1 15 (nI q.2)) 15 (nI q'.2), va_up (va_up x.2.1 14 q.1) 14 q'.1, x.2.2) = _
  rw [upd_upd, va_upup]
/-- a hand that is one already -/
theorem sH_self {x : RS} {q : PL} (h1 : x.1 15 = nI q.2) (h2 : x.2.1 14 = q.1) : sH x q = x := by
  unfold sH
  have e1 : upd x.1 15 (nI q.2) = x.1 := by
    funext j
    by_cases h : j = 15
    · subst h; simp [upd, h1]
    · simp [upd, h]
  have e2 : va_up x.2.1 14 q.1 = x.2.1 := by
    funext j
    by_cases h : j = 14
    · subst h; simp [va_up, h2]
    · simp [va_up, h]
  rw [e1, e2]
section HR
variable {p : Program} {l : Launch} {e : Env} {R : Room} {s : State} {m : MethodId} {args : Array Value} {below : List Frame} {meth : Method} {c : Code} {H : Heap} {locs : List Loc} {cells slots : Nat} {Q : State → Prop}
variable {cc : ByteArray} {pc nL : Nat} {ls : Array Slot} {rest : List Value} {Γ : mG} {A : Nat → Prop} {L : mI → Nat} {x : RS} {h : Nat → Int32} {d : Nat}
theorem h_get15 (X : mX Γ p m c cc nL s args RX10 A) (hw : mW Γ.1 vwCl A L (rM Γ L (sH x (h, d))) H) (hdg : decode cc pc = .ok (.getfield 145, 3)) (kk : W p l e R s m args below meth c H locs cells slots Q (F0 m (pc + 3) ls (.int (nI d) :: rest))) : W p l e R s m args below meth c H locs cells slots Q (F0 m pc ls (.ref (L (.inl 0)) :: rest)) := r_get15 X hw hdg kk
theorem h_put15 {v : Int32} {n : Nat} (X : mX Γ p m c cc nL s args RX10 A) (hw : mW Γ.1 vwCl A L (rM Γ L (sH x (h, d))) H) (hS : va_S A s.heap H locs) (hv : v = nI n) (hdg : decode cc pc = .ok (.putfield 145, 3)) (kk : ∀ (H1 : Heap) (locs1 : List Loc), mW Γ.1 vwCl A L (rM Γ L (sH x (h, n))) H1 → va_S A s.heap H1 locs1 → W p l e R s m args below meth c H1 locs1 cells slots Q (F0 m (pc + 3) ls rest)) : W p l e R s m args below meth c H locs cells slots Q (F0 m pc ls (.int v :: .ref (L (.inl 0)) :: rest)) := by
  subst hv
  exact r_put15 X hw hS hdg (fun H1 locs1 h1 h2 => kk H1 locs1 (by rw [sH_sS] at h1; exact h1) h2)
theorem h_ald14 {i : Int32} {n : Nat} (X : mX Γ p m c cc nL s args RX10 A) (hw : mW Γ.1 vwCl A L (rM Γ L (sH x (h, d))) H) (hi : i = nI n) (hn : n < 16) (hdg : decode cc pc = .ok (.iaload, 1)) (kk : W p l e R s m args below meth c H locs cells slots Q (F0 m (pc + 1) ls (.int (h n) :: rest))) : W p l e R s m args below meth c H locs cells slots Q (F0 m pc ls (.int i :: .ref (L (.inr (0, 14, 0))) :: rest)) := r_ald14N X hw hi hn hdg kk
theorem h_ast14 {i v : Int32} {n : Nat} (X : mX Γ p m c cc nL s args RX10 A) (hw : mW Γ.1 vwCl A L (rM Γ L (sH x (h, d))) H) (hS : va_S A s.heap H locs) (hi : i = nI n) (hn : n < 16) (hdg : decode cc pc = .ok (.iastore, 1)) (kk : ∀ (H1 : Heap) (locs1 : List Loc), mW Γ.1 vwCl A L (rM Γ L (sH x (upd h n v, d))) H1 → va_S A s.heap H1 locs1 → W p l e R s m args below meth c H1 locs1 cells slots Q (F0 m (pc + 1) ls rest)) : W p l e R s m args below meth c H locs cells slots Q (F0 m pc ls (.int v :: .int i :: .ref (L (.inr (0, 14, 0))) :: rest)) :=
  r_ast14N X hw hS hi hn hdg (fun H1 locs1 h1 h2 => kk H1 locs1 (by rw [sH_sA] at h1; exact h1) h2)
end HR
/-! what an instruction does with a hand, or none: it is WRONG -/
def p_push (q : PL) (k : Int32) : Option PL := if q.2 = 8 then none else some (upd q.1 (8 + q.2) k, q.2 + 1)
def p_pop (q : PL) (k : Int32) : Option PL := if q.2 = 0 then none else if r_goes (q.1 (7 + q.2)) k = true then some (q.1, q.2 - 1) else none
def p_pushL (q : PL) : Option PL := (p_push q 2).bind (fun z => p_push z 3)
def p_popL (q : PL) : Option PL := if 2 ≤ q.2 ∧ q.1 (7 + q.2) = 3 ∧ q.1 (6 + q.2) = 2 then some (q.1, q.2 - 2) else none
def p_one (q : PL) (n : Nat) : Bool := decide (n < q.2) && r_one (q.1 (7 + q.2 - n))
def p_local1 (h : Nat → Int32) (l : Nat) : Nat → Int32 := if h l = 3 ∧ 0 < l ∧ h (l - 1) = 2 then upd h (l - 1) 0 else h
def p_local2 (h : Nat → Int32) (l : Nat) : Nat → Int32 := if h l = 2 ∧ l < 7 ∧ h (l + 1) = 3 then upd h (l + 1) 0 else h
def p_local (h : Nat → Int32) (l : Nat) (k : Int32) : Nat → Int32 := upd (p_local2 (p_local1 h l) l) l k
/-- the answer of a method that does something with the hand -/
def mHand (Γ : mG) (L : mI → Nat) (x : RS) (o : Option PL) (r : Int32) (L1 : mI → Nat) (M1 : mM) : Prop := ∃ q : PL, L1 = L ∧ M1 = rM Γ L (sH x q) ∧ match o with
  | some z => r = 1 ∧ q = z
  | none => r = 0
end
section
theorem upd_comm (f : Nat → Int32) {j k : Nat} (h : j ≠ k) (a b : Int32) : upd (upd f j a) k b = upd (upd f k b) j a := by
  funext i
  by_cases h1 : i = j
  · subst h1; simp [upd, h]
  · by_cases h2 : i = k
    · subst h2; simp [upd, h1]
    · simp [upd, h1, h2]
theorem va_upcomm {α : Type} (f : Nat → α) {j k : Nat} (h : j ≠ k) (a b : α) : va_up (va_up f j a) k b = va_up (va_up f k b) j a := by
  funext i
  by_cases h1 : i = j
  · subst h1; simp [va_up, h]
  · by_cases h2 : i = k
    · subst h2; simp [va_up, h1]
    · simp [va_up, h1, h2]
theorem sH_A (x : RS) (q : PL) {k : Nat} (hk : 14 ≠ k) (n : Nat) (v : Int32) : sA (sH x q) k n v = sH (sA x k n v) q := by
  unfold sA sH
  have e : va_up x.2.1 14 q.1 k = x.2.1 k := by simp [va_up, Ne.symm hk]
  show (_, va_up (va_up x.2.1 14 q.1) k (upd (va_up x.2.1 14 q.1 k) n v), _) = _
  rw [e, va_upcomm _ hk]
theorem sH_J (x : RS) (q : PL) (k n : Nat) (v : Int64) : sJ (sH x q) k n v = sH (sJ x k n v) q := rfl
theorem sH_S (x : RS) (q : PL) {k : Nat} (hk : 15 ≠ k) (v : Int32) : sS (sH x q) k v = sH (sS x k v) q := by
  unfold sS sH
  rw [upd_comm _ hk]
section HX
variable {p : Program} {l : Launch} {e : Env} {R : Room} {s : State} {m : MethodId} {args : Array Value} {below : List Frame} {meth : Method} {c : Code} {H : Heap} {locs : List Loc} {cells slots : Nat} {Q : State → Prop}
variable {cc : ByteArray} {pc nL : Nat} {ls : Array Slot} {rest : List Value} {Γ : mG} {A : Nat → Prop} {L : mI → Nat} {x : RS} {h : Nat → Int32} {d : Nat}
theorem h_get0 (X : mX Γ p m c cc nL s args RX10 A) (hw : mW Γ.1 vwCl A L (rM Γ L (sH x (h, d))) H) (hdg : decode cc pc = .ok (.getfield 75, 3)) (kk : W p l e R s m args below meth c H locs cells slots Q (F0 m (pc + 3) ls (.int (x.1 0) :: rest))) : W p l e R s m args below meth c H locs cells slots Q (F0 m pc ls (.ref (L (.inl 0)) :: rest)) := r_get0 X hw hdg kk
theorem h_ald1 {i : Int32} {n : Nat} (X : mX Γ p m c cc nL s args RX10 A) (hw : mW Γ.1 vwCl A L (rM Γ L (sH x (h, d))) H) (hi : i = nI n) (hn : n < 8) (hdg : decode cc pc = .ok (.iaload, 1)) (kk : W p l e R s m args below meth c H locs cells slots Q (F0 m (pc + 1) ls (.int (x.2.1 1 n) :: rest))) : W p l e R s m args below meth c H locs cells slots Q (F0 m pc ls (.int i :: .ref (L (.inr (0, 1, 0))) :: rest)) := r_ald1N X hw hi hn hdg kk
theorem h_ald2 {i : Int32} {n : Nat} (X : mX Γ p m c cc nL s args RX10 A) (hw : mW Γ.1 vwCl A L (rM Γ L (sH x (h, d))) H) (hi : i = nI n) (hn : n < 8) (hdg : decode cc pc = .ok (.iaload, 1)) (kk : W p l e R s m args below meth c H locs cells slots Q (F0 m (pc + 1) ls (.int (x.2.1 2 n) :: rest))) : W p l e R s m args below meth c H locs cells slots Q (F0 m pc ls (.int i :: .ref (L (.inr (0, 2, 0))) :: rest)) := r_ald2N X hw hi hn hdg kk
theorem h_ald3 {i : Int32} {n : Nat} (X : mX Γ p m c cc nL s args RX10 A) (hw : mW Γ.1 vwCl A L (rM Γ L (sH x (h, d))) H) (hi : i = nI n) (hn : n < 320) (hdg : decode cc pc = .ok (.iaload, 1)) (kk : W p l e R s m args below meth c H locs cells slots Q (F0 m (pc + 1) ls (.int (x.2.1 3 n) :: rest))) : W p l e R s m args below meth c H locs cells slots Q (F0 m pc ls (.int i :: .ref (L (.inr (0, 3, 0))) :: rest)) := r_ald3N X hw hi hn hdg kk
theorem h_ald4 {i : Int32} {n : Nat} (X : mX Γ p m c cc nL s args RX10 A) (hw : mW Γ.1 vwCl A L (rM Γ L (sH x (h, d))) H) (hi : i = nI n) (hn : n < 320) (hdg : decode cc pc = .ok (.laload, 1)) (kk : W p l e R s m args below meth c H locs cells slots Q (F0 m (pc + 1) ls (.long (x.2.2 4 n) :: rest))) : W p l e R s m args below meth c H locs cells slots Q (F0 m pc ls (.int i :: .ref (L (.inr (0, 4, 0))) :: rest)) := r_ald4N X hw hi hn hdg kk
theorem h_ald5 {i : Int32} {n : Nat} (X : mX Γ p m c cc nL s args RX10 A) (hw : mW Γ.1 vwCl A L (rM Γ L (sH x (h, d))) H) (hi : i = nI n) (hn : n < 8) (hdg : decode cc pc = .ok (.iaload, 1)) (kk : W p l e R s m args below meth c H locs cells slots Q (F0 m (pc + 1) ls (.int (x.2.1 5 n) :: rest))) : W p l e R s m args below meth c H locs cells slots Q (F0 m pc ls (.int i :: .ref (L (.inr (0, 5, 0))) :: rest)) := r_ald5N X hw hi hn hdg kk
theorem h_ald6 {i : Int32} {n : Nat} (X : mX Γ p m c cc nL s args RX10 A) (hw : mW Γ.1 vwCl A L (rM Γ L (sH x (h, d))) H) (hi : i = nI n) (hn : n < 192) (hdg : decode cc pc = .ok (.iaload, 1)) (kk : W p l e R s m args below meth c H locs cells slots Q (F0 m (pc + 1) ls (.int (x.2.1 6 n) :: rest))) : W p l e R s m args below meth c H locs cells slots Q (F0 m pc ls (.int i :: .ref (L (.inr (0, 6, 0))) :: rest)) := r_ald6N X hw hi hn hdg kk
theorem h_ald7 {i : Int32} {n : Nat} (X : mX Γ p m c cc nL s args RX10 A) (hw : mW Γ.1 vwCl A L (rM Γ L (sH x (h, d))) H) (hi : i = nI n) (hn : n < 320) (hdg : decode cc pc = .ok (.iaload, 1)) (kk : W p l e R s m args below meth c H locs cells slots Q (F0 m (pc + 1) ls (.int (x.2.1 7 n) :: rest))) : W p l e R s m args below meth c H locs cells slots Q (F0 m pc ls (.int i :: .ref (L (.inr (0, 7, 0))) :: rest)) := r_ald7N X hw hi hn hdg kk
theorem h_ald8 {i : Int32} {n : Nat} (X : mX Γ p m c cc nL s args RX10 A) (hw : mW Γ.1 vwCl A L (rM Γ L (sH x (h, d))) H) (hi : i = nI n) (hn : n < 5120) (hdg : decode cc pc = .ok (.iaload, 1)) (kk : W p l e R s m args below meth c H locs cells slots Q (F0 m (pc + 1) ls (.int (x.2.1 8 n) :: rest))) : W p l e R s m args below meth c H locs cells slots Q (F0 m pc ls (.int i :: .ref (L (.inr (0, 8, 0))) :: rest)) := r_ald8N X hw hi hn hdg kk
theorem h_ald9 {i : Int32} {n : Nat} (X : mX Γ p m c cc nL s args RX10 A) (hw : mW Γ.1 vwCl A L (rM Γ L (sH x (h, d))) H) (hi : i = nI n) (hn : n < 8) (hdg : decode cc pc = .ok (.baload, 1)) (kk : W p l e R s m args below meth c H locs cells slots Q (F0 m (pc + 1) ls (.int (x.2.1 9 n) :: rest))) : W p l e R s m args below meth c H locs cells slots Q (F0 m pc ls (.int i :: .ref (L (.inr (0, 9, 0))) :: rest)) := r_ald9N X hw hi hn hdg kk
theorem h_ald11 {i : Int32} {n : Nat} (X : mX Γ p m c cc nL s args RX10 A) (hw : mW Γ.1 vwCl A L (rM Γ L (sH x (h, d))) H) (hi : i = nI n) (hn : n < 40) (hdg : decode cc pc = .ok (.iaload, 1)) (kk : W p l e R s m args below meth c H locs cells slots Q (F0 m (pc + 1) ls (.int (x.2.1 11 n) :: rest))) : W p l e R s m args below meth c H locs cells slots Q (F0 m pc ls (.int i :: .ref (L (.inr (0, 11, 0))) :: rest)) := r_ald11N X hw hi hn hdg kk
theorem h_ald12 {i : Int32} {n : Nat} (X : mX Γ p m c cc nL s args RX10 A) (hw : mW Γ.1 vwCl A L (rM Γ L (sH x (h, d))) H) (hi : i = nI n) (hn : n < 640) (hdg : decode cc pc = .ok (.iaload, 1)) (kk : W p l e R s m args below meth c H locs cells slots Q (F0 m (pc + 1) ls (.int (x.2.1 12 n) :: rest))) : W p l e R s m args below meth c H locs cells slots Q (F0 m pc ls (.int i :: .ref (L (.inr (0, 12, 0))) :: rest)) := r_ald12N X hw hi hn hdg kk
theorem h_get13 (X : mX Γ p m c cc nL s args RX10 A) (hw : mW Γ.1 vwCl A L (rM Γ L (sH x (h, d))) H) (hdg : decode cc pc = .ok (.getfield 225, 3)) (kk : W p l e R s m args below meth c H locs cells slots Q (F0 m (pc + 3) ls (.int (x.1 13) :: rest))) : W p l e R s m args below meth c H locs cells slots Q (F0 m pc ls (.ref (L (.inl 0)) :: rest)) := r_get13 X hw hdg kk
theorem h_get16 (X : mX Γ p m c cc nL s args RX10 A) (hw : mW Γ.1 vwCl A L (rM Γ L (sH x (h, d))) H) (hdg : decode cc pc = .ok (.getfield 212, 3)) (kk : W p l e R s m args below meth c H locs cells slots Q (F0 m (pc + 3) ls (.int (x.1 16) :: rest))) : W p l e R s m args below meth c H locs cells slots Q (F0 m pc ls (.ref (L (.inl 0)) :: rest)) := r_get16 X hw hdg kk
theorem h_ald17 {i : Int32} {n : Nat} (X : mX Γ p m c cc nL s args RX10 A) (hw : mW Γ.1 vwCl A L (rM Γ L (sH x (h, d))) H) (hi : i = nI n) (hn : n < 8) (hdg : decode cc pc = .ok (.iaload, 1)) (kk : W p l e R s m args below meth c H locs cells slots Q (F0 m (pc + 1) ls (.int (x.2.1 17 n) :: rest))) : W p l e R s m args below meth c H locs cells slots Q (F0 m pc ls (.int i :: .ref (L (.inr (0, 17, 0))) :: rest)) := r_ald17N X hw hi hn hdg kk
theorem h_ald18 {i : Int32} {n : Nat} (X : mX Γ p m c cc nL s args RX10 A) (hw : mW Γ.1 vwCl A L (rM Γ L (sH x (h, d))) H) (hi : i = nI n) (hn : n < 128) (hdg : decode cc pc = .ok (.laload, 1)) (kk : W p l e R s m args below meth c H locs cells slots Q (F0 m (pc + 1) ls (.long (x.2.2 18 n) :: rest))) : W p l e R s m args below meth c H locs cells slots Q (F0 m pc ls (.int i :: .ref (L (.inr (0, 18, 0))) :: rest)) := r_ald18N X hw hi hn hdg kk
theorem h_ald19 {i : Int32} {n : Nat} (X : mX Γ p m c cc nL s args RX10 A) (hw : mW Γ.1 vwCl A L (rM Γ L (sH x (h, d))) H) (hi : i = nI n) (hn : n < 8) (hdg : decode cc pc = .ok (.iaload, 1)) (kk : W p l e R s m args below meth c H locs cells slots Q (F0 m (pc + 1) ls (.int (x.2.1 19 n) :: rest))) : W p l e R s m args below meth c H locs cells slots Q (F0 m pc ls (.int i :: .ref (L (.inr (0, 19, 0))) :: rest)) := r_ald19N X hw hi hn hdg kk
theorem h_ald20 {i : Int32} {n : Nat} (X : mX Γ p m c cc nL s args RX10 A) (hw : mW Γ.1 vwCl A L (rM Γ L (sH x (h, d))) H) (hi : i = nI n) (hn : n < 8) (hdg : decode cc pc = .ok (.iaload, 1)) (kk : W p l e R s m args below meth c H locs cells slots Q (F0 m (pc + 1) ls (.int (x.2.1 20 n) :: rest))) : W p l e R s m args below meth c H locs cells slots Q (F0 m pc ls (.int i :: .ref (L (.inr (0, 20, 0))) :: rest)) := r_ald20N X hw hi hn hdg kk
theorem h_ald21 {i : Int32} {n : Nat} (X : mX Γ p m c cc nL s args RX10 A) (hw : mW Γ.1 vwCl A L (rM Γ L (sH x (h, d))) H) (hi : i = nI n) (hn : n < 8) (hdg : decode cc pc = .ok (.iaload, 1)) (kk : W p l e R s m args below meth c H locs cells slots Q (F0 m (pc + 1) ls (.int (x.2.1 21 n) :: rest))) : W p l e R s m args below meth c H locs cells slots Q (F0 m pc ls (.int i :: .ref (L (.inr (0, 21, 0))) :: rest)) := r_ald21N X hw hi hn hdg kk
theorem h_get22 (X : mX Γ p m c cc nL s args RX10 A) (hw : mW Γ.1 vwCl A L (rM Γ L (sH x (h, d))) H) (hdg : decode cc pc = .ok (.getfield 235, 3)) (kk : W p l e R s m args below meth c H locs cells slots Q (F0 m (pc + 3) ls (.int (x.1 22) :: rest))) : W p l e R s m args below meth c H locs cells slots Q (F0 m pc ls (.ref (L (.inl 0)) :: rest)) := r_get22 X hw hdg kk
theorem h_get23 (X : mX Γ p m c cc nL s args RX10 A) (hw : mW Γ.1 vwCl A L (rM Γ L (sH x (h, d))) H) (hdg : decode cc pc = .ok (.getfield 248, 3)) (kk : W p l e R s m args below meth c H locs cells slots Q (F0 m (pc + 3) ls (.int (x.1 23) :: rest))) : W p l e R s m args below meth c H locs cells slots Q (F0 m pc ls (.ref (L (.inl 0)) :: rest)) := r_get23 X hw hdg kk
theorem h_ald24 {i : Int32} {n : Nat} (X : mX Γ p m c cc nL s args RX10 A) (hw : mW Γ.1 vwCl A L (rM Γ L (sH x (h, d))) H) (hi : i = nI n) (hn : n < 20) (hdg : decode cc pc = .ok (.iaload, 1)) (kk : W p l e R s m args below meth c H locs cells slots Q (F0 m (pc + 1) ls (.int (x.2.1 24 n) :: rest))) : W p l e R s m args below meth c H locs cells slots Q (F0 m pc ls (.int i :: .ref (L (.inr (0, 24, 0))) :: rest)) := r_ald24N X hw hi hn hdg kk
theorem h_ald25 {i : Int32} {n : Nat} (X : mX Γ p m c cc nL s args RX10 A) (hw : mW Γ.1 vwCl A L (rM Γ L (sH x (h, d))) H) (hi : i = nI n) (hn : n < 20) (hdg : decode cc pc = .ok (.iaload, 1)) (kk : W p l e R s m args below meth c H locs cells slots Q (F0 m (pc + 1) ls (.int (x.2.1 25 n) :: rest))) : W p l e R s m args below meth c H locs cells slots Q (F0 m pc ls (.int i :: .ref (L (.inr (0, 25, 0))) :: rest)) := r_ald25N X hw hi hn hdg kk
theorem h_ald26 {i : Int32} {n : Nat} (X : mX Γ p m c cc nL s args RX10 A) (hw : mW Γ.1 vwCl A L (rM Γ L (sH x (h, d))) H) (hi : i = nI n) (hn : n < 20) (hdg : decode cc pc = .ok (.iaload, 1)) (kk : W p l e R s m args below meth c H locs cells slots Q (F0 m (pc + 1) ls (.int (x.2.1 26 n) :: rest))) : W p l e R s m args below meth c H locs cells slots Q (F0 m pc ls (.int i :: .ref (L (.inr (0, 26, 0))) :: rest)) := r_ald26N X hw hi hn hdg kk
theorem h_ald27 {i : Int32} {n : Nat} (X : mX Γ p m c cc nL s args RX10 A) (hw : mW Γ.1 vwCl A L (rM Γ L (sH x (h, d))) H) (hi : i = nI n) (hn : n < 600) (hdg : decode cc pc = .ok (.laload, 1)) (kk : W p l e R s m args below meth c H locs cells slots Q (F0 m (pc + 1) ls (.long (x.2.2 27 n) :: rest))) : W p l e R s m args below meth c H locs cells slots Q (F0 m pc ls (.int i :: .ref (L (.inr (0, 27, 0))) :: rest)) := r_ald27N X hw hi hn hdg kk
theorem h_get28 (X : mX Γ p m c cc nL s args RX10 A) (hw : mW Γ.1 vwCl A L (rM Γ L (sH x (h, d))) H) (hdg : decode cc pc = .ok (.getfield 263, 3)) (kk : W p l e R s m args below meth c H locs cells slots Q (F0 m (pc + 3) ls (.int (x.1 28) :: rest))) : W p l e R s m args below meth c H locs cells slots Q (F0 m pc ls (.ref (L (.inl 0)) :: rest)) := r_get28 X hw hdg kk
theorem h_get29 (X : mX Γ p m c cc nL s args RX10 A) (hw : mW Γ.1 vwCl A L (rM Γ L (sH x (h, d))) H) (hdg : decode cc pc = .ok (.getfield 251, 3)) (kk : W p l e R s m args below meth c H locs cells slots Q (F0 m (pc + 3) ls (.int (x.1 29) :: rest))) : W p l e R s m args below meth c H locs cells slots Q (F0 m pc ls (.ref (L (.inl 0)) :: rest)) := r_get29 X hw hdg kk
theorem h_get30 (X : mX Γ p m c cc nL s args RX10 A) (hw : mW Γ.1 vwCl A L (rM Γ L (sH x (h, d))) H) (hdg : decode cc pc = .ok (.getfield 254, 3)) (kk : W p l e R s m args below meth c H locs cells slots Q (F0 m (pc + 3) ls (.int (x.1 30) :: rest))) : W p l e R s m args below meth c H locs cells slots Q (F0 m pc ls (.ref (L (.inl 0)) :: rest)) := r_get30 X hw hdg kk
theorem h_get31 (X : mX Γ p m c cc nL s args RX10 A) (hw : mW Γ.1 vwCl A L (rM Γ L (sH x (h, d))) H) (hdg : decode cc pc = .ok (.getfield 257, 3)) (kk : W p l e R s m args below meth c H locs cells slots Q (F0 m (pc + 3) ls (.int (x.1 31) :: rest))) : W p l e R s m args below meth c H locs cells slots Q (F0 m pc ls (.ref (L (.inl 0)) :: rest)) := r_get31 X hw hdg kk
theorem h_get32 (X : mX Γ p m c cc nL s args RX10 A) (hw : mW Γ.1 vwCl A L (rM Γ L (sH x (h, d))) H) (hdg : decode cc pc = .ok (.getfield 260, 3)) (kk : W p l e R s m args below meth c H locs cells slots Q (F0 m (pc + 3) ls (.int (x.1 32) :: rest))) : W p l e R s m args below meth c H locs cells slots Q (F0 m pc ls (.ref (L (.inl 0)) :: rest)) := r_get32 X hw hdg kk
theorem h_get33 (X : mX Γ p m c cc nL s args RX10 A) (hw : mW Γ.1 vwCl A L (rM Γ L (sH x (h, d))) H) (hdg : decode cc pc = .ok (.getfield 245, 3)) (kk : W p l e R s m args below meth c H locs cells slots Q (F0 m (pc + 3) ls (.int (x.1 33) :: rest))) : W p l e R s m args below meth c H locs cells slots Q (F0 m pc ls (.ref (L (.inl 0)) :: rest)) := r_get33 X hw hdg kk
theorem h_get34 (X : mX Γ p m c cc nL s args RX10 A) (hw : mW Γ.1 vwCl A L (rM Γ L (sH x (h, d))) H) (hdg : decode cc pc = .ok (.getfield 273, 3)) (kk : W p l e R s m args below meth c H locs cells slots Q (F0 m (pc + 3) ls (.int (x.1 34) :: rest))) : W p l e R s m args below meth c H locs cells slots Q (F0 m pc ls (.ref (L (.inl 0)) :: rest)) := r_get34 X hw hdg kk
theorem h_put0 {v : Int32} (X : mX Γ p m c cc nL s args RX10 A) (hw : mW Γ.1 vwCl A L (rM Γ L (sH x (h, d))) H) (hS : va_S A s.heap H locs) (hdg : decode cc pc = .ok (.putfield 75, 3)) (kk : ∀ (H1 : Heap) (locs1 : List Loc), mW Γ.1 vwCl A L (rM Γ L (sH (sS x 0 v) (h, d))) H1 → va_S A s.heap H1 locs1 → W p l e R s m args below meth c H1 locs1 cells slots Q (F0 m (pc + 3) ls rest)) : W p l e R s m args below meth c H locs cells slots Q (F0 m pc ls (.int v :: .ref (L (.inl 0)) :: rest)) := r_put0 X hw hS hdg (fun H1 locs1 h1 h2 => kk H1 locs1 (by rw [sH_S x (h, d) (by decide)] at h1; exact h1) h2)
theorem h_ast1 {i : Int32} {v : Int32} {n : Nat} (X : mX Γ p m c cc nL s args RX10 A) (hw : mW Γ.1 vwCl A L (rM Γ L (sH x (h, d))) H) (hS : va_S A s.heap H locs) (hi : i = nI n) (hn : n < 8) (hdg : decode cc pc = .ok (.iastore, 1)) (kk : ∀ (H1 : Heap) (locs1 : List Loc), mW Γ.1 vwCl A L (rM Γ L (sH (sA x 1 n v) (h, d))) H1 → va_S A s.heap H1 locs1 → W p l e R s m args below meth c H1 locs1 cells slots Q (F0 m (pc + 1) ls rest)) : W p l e R s m args below meth c H locs cells slots Q (F0 m pc ls (.int v :: .int i :: .ref (L (.inr (0, 1, 0))) :: rest)) := r_ast1N X hw hS hi hn hdg (fun H1 locs1 h1 h2 => kk H1 locs1 (by rw [sH_A x (h, d) (by decide)] at h1; exact h1) h2)
theorem h_ast2 {i : Int32} {v : Int32} {n : Nat} (X : mX Γ p m c cc nL s args RX10 A) (hw : mW Γ.1 vwCl A L (rM Γ L (sH x (h, d))) H) (hS : va_S A s.heap H locs) (hi : i = nI n) (hn : n < 8) (hdg : decode cc pc = .ok (.iastore, 1)) (kk : ∀ (H1 : Heap) (locs1 : List Loc), mW Γ.1 vwCl A L (rM Γ L (sH (sA x 2 n v) (h, d))) H1 → va_S A s.heap H1 locs1 → W p l e R s m args below meth c H1 locs1 cells slots Q (F0 m (pc + 1) ls rest)) : W p l e R s m args below meth c H locs cells slots Q (F0 m pc ls (.int v :: .int i :: .ref (L (.inr (0, 2, 0))) :: rest)) := r_ast2N X hw hS hi hn hdg (fun H1 locs1 h1 h2 => kk H1 locs1 (by rw [sH_A x (h, d) (by decide)] at h1; exact h1) h2)
theorem h_ast3 {i : Int32} {v : Int32} {n : Nat} (X : mX Γ p m c cc nL s args RX10 A) (hw : mW Γ.1 vwCl A L (rM Γ L (sH x (h, d))) H) (hS : va_S A s.heap H locs) (hi : i = nI n) (hn : n < 320) (hdg : decode cc pc = .ok (.iastore, 1)) (kk : ∀ (H1 : Heap) (locs1 : List Loc), mW Γ.1 vwCl A L (rM Γ L (sH (sA x 3 n v) (h, d))) H1 → va_S A s.heap H1 locs1 → W p l e R s m args below meth c H1 locs1 cells slots Q (F0 m (pc + 1) ls rest)) : W p l e R s m args below meth c H locs cells slots Q (F0 m pc ls (.int v :: .int i :: .ref (L (.inr (0, 3, 0))) :: rest)) := r_ast3N X hw hS hi hn hdg (fun H1 locs1 h1 h2 => kk H1 locs1 (by rw [sH_A x (h, d) (by decide)] at h1; exact h1) h2)
theorem h_ast4 {i : Int32} {v : Int64} {n : Nat} (X : mX Γ p m c cc nL s args RX10 A) (hw : mW Γ.1 vwCl A L (rM Γ L (sH x (h, d))) H) (hS : va_S A s.heap H locs) (hi : i = nI n) (hn : n < 320) (hdg : decode cc pc = .ok (.lastore, 1)) (kk : ∀ (H1 : Heap) (locs1 : List Loc), mW Γ.1 vwCl A L (rM Γ L (sH (sJ x 4 n v) (h, d))) H1 → va_S A s.heap H1 locs1 → W p l e R s m args below meth c H1 locs1 cells slots Q (F0 m (pc + 1) ls rest)) : W p l e R s m args below meth c H locs cells slots Q (F0 m pc ls (.long v :: .int i :: .ref (L (.inr (0, 4, 0))) :: rest)) := r_ast4N X hw hS hi hn hdg (fun H1 locs1 h1 h2 => kk H1 locs1 (by rw [sH_J] at h1; exact h1) h2)
theorem h_ast5 {i : Int32} {v : Int32} {n : Nat} (X : mX Γ p m c cc nL s args RX10 A) (hw : mW Γ.1 vwCl A L (rM Γ L (sH x (h, d))) H) (hS : va_S A s.heap H locs) (hi : i = nI n) (hn : n < 8) (hdg : decode cc pc = .ok (.iastore, 1)) (kk : ∀ (H1 : Heap) (locs1 : List Loc), mW Γ.1 vwCl A L (rM Γ L (sH (sA x 5 n v) (h, d))) H1 → va_S A s.heap H1 locs1 → W p l e R s m args below meth c H1 locs1 cells slots Q (F0 m (pc + 1) ls rest)) : W p l e R s m args below meth c H locs cells slots Q (F0 m pc ls (.int v :: .int i :: .ref (L (.inr (0, 5, 0))) :: rest)) := r_ast5N X hw hS hi hn hdg (fun H1 locs1 h1 h2 => kk H1 locs1 (by rw [sH_A x (h, d) (by decide)] at h1; exact h1) h2)
theorem h_ast6 {i : Int32} {v : Int32} {n : Nat} (X : mX Γ p m c cc nL s args RX10 A) (hw : mW Γ.1 vwCl A L (rM Γ L (sH x (h, d))) H) (hS : va_S A s.heap H locs) (hi : i = nI n) (hn : n < 192) (hdg : decode cc pc = .ok (.iastore, 1)) (kk : ∀ (H1 : Heap) (locs1 : List Loc), mW Γ.1 vwCl A L (rM Γ L (sH (sA x 6 n v) (h, d))) H1 → va_S A s.heap H1 locs1 → W p l e R s m args below meth c H1 locs1 cells slots Q (F0 m (pc + 1) ls rest)) : W p l e R s m args below meth c H locs cells slots Q (F0 m pc ls (.int v :: .int i :: .ref (L (.inr (0, 6, 0))) :: rest)) := r_ast6N X hw hS hi hn hdg (fun H1 locs1 h1 h2 => kk H1 locs1 (by rw [sH_A x (h, d) (by decide)] at h1; exact h1) h2)
theorem h_ast7 {i : Int32} {v : Int32} {n : Nat} (X : mX Γ p m c cc nL s args RX10 A) (hw : mW Γ.1 vwCl A L (rM Γ L (sH x (h, d))) H) (hS : va_S A s.heap H locs) (hi : i = nI n) (hn : n < 320) (hdg : decode cc pc = .ok (.iastore, 1)) (kk : ∀ (H1 : Heap) (locs1 : List Loc), mW Γ.1 vwCl A L (rM Γ L (sH (sA x 7 n v) (h, d))) H1 → va_S A s.heap H1 locs1 → W p l e R s m args below meth c H1 locs1 cells slots Q (F0 m (pc + 1) ls rest)) : W p l e R s m args below meth c H locs cells slots Q (F0 m pc ls (.int v :: .int i :: .ref (L (.inr (0, 7, 0))) :: rest)) := r_ast7N X hw hS hi hn hdg (fun H1 locs1 h1 h2 => kk H1 locs1 (by rw [sH_A x (h, d) (by decide)] at h1; exact h1) h2)
theorem h_ast8 {i : Int32} {v : Int32} {n : Nat} (X : mX Γ p m c cc nL s args RX10 A) (hw : mW Γ.1 vwCl A L (rM Γ L (sH x (h, d))) H) (hS : va_S A s.heap H locs) (hi : i = nI n) (hn : n < 5120) (hdg : decode cc pc = .ok (.iastore, 1)) (kk : ∀ (H1 : Heap) (locs1 : List Loc), mW Γ.1 vwCl A L (rM Γ L (sH (sA x 8 n v) (h, d))) H1 → va_S A s.heap H1 locs1 → W p l e R s m args below meth c H1 locs1 cells slots Q (F0 m (pc + 1) ls rest)) : W p l e R s m args below meth c H locs cells slots Q (F0 m pc ls (.int v :: .int i :: .ref (L (.inr (0, 8, 0))) :: rest)) := r_ast8N X hw hS hi hn hdg (fun H1 locs1 h1 h2 => kk H1 locs1 (by rw [sH_A x (h, d) (by decide)] at h1; exact h1) h2)
theorem h_ast9 {i : Int32} {v : Int32} {n : Nat} (X : mX Γ p m c cc nL s args RX10 A) (hw : mW Γ.1 vwCl A L (rM Γ L (sH x (h, d))) H) (hS : va_S A s.heap H locs) (hi : i = nI n) (hn : n < 8) (hdg : decode cc pc = .ok (.bastore, 1)) (kk : ∀ (H1 : Heap) (locs1 : List Loc), mW Γ.1 vwCl A L (rM Γ L (sH (sA x 9 n (vp_nar .boolean v)) (h, d))) H1 → va_S A s.heap H1 locs1 → W p l e R s m args below meth c H1 locs1 cells slots Q (F0 m (pc + 1) ls rest)) : W p l e R s m args below meth c H locs cells slots Q (F0 m pc ls (.int v :: .int i :: .ref (L (.inr (0, 9, 0))) :: rest)) := r_ast9N X hw hS hi hn hdg (fun H1 locs1 h1 h2 => kk H1 locs1 (by rw [sH_A x (h, d) (by decide)] at h1; exact h1) h2)
theorem h_ast11 {i : Int32} {v : Int32} {n : Nat} (X : mX Γ p m c cc nL s args RX10 A) (hw : mW Γ.1 vwCl A L (rM Γ L (sH x (h, d))) H) (hS : va_S A s.heap H locs) (hi : i = nI n) (hn : n < 40) (hdg : decode cc pc = .ok (.iastore, 1)) (kk : ∀ (H1 : Heap) (locs1 : List Loc), mW Γ.1 vwCl A L (rM Γ L (sH (sA x 11 n v) (h, d))) H1 → va_S A s.heap H1 locs1 → W p l e R s m args below meth c H1 locs1 cells slots Q (F0 m (pc + 1) ls rest)) : W p l e R s m args below meth c H locs cells slots Q (F0 m pc ls (.int v :: .int i :: .ref (L (.inr (0, 11, 0))) :: rest)) := r_ast11N X hw hS hi hn hdg (fun H1 locs1 h1 h2 => kk H1 locs1 (by rw [sH_A x (h, d) (by decide)] at h1; exact h1) h2)
theorem h_ast12 {i : Int32} {v : Int32} {n : Nat} (X : mX Γ p m c cc nL s args RX10 A) (hw : mW Γ.1 vwCl A L (rM Γ L (sH x (h, d))) H) (hS : va_S A s.heap H locs) (hi : i = nI n) (hn : n < 640) (hdg : decode cc pc = .ok (.iastore, 1)) (kk : ∀ (H1 : Heap) (locs1 : List Loc), mW Γ.1 vwCl A L (rM Γ L (sH (sA x 12 n v) (h, d))) H1 → va_S A s.heap H1 locs1 → W p l e R s m args below meth c H1 locs1 cells slots Q (F0 m (pc + 1) ls rest)) : W p l e R s m args below meth c H locs cells slots Q (F0 m pc ls (.int v :: .int i :: .ref (L (.inr (0, 12, 0))) :: rest)) := r_ast12N X hw hS hi hn hdg (fun H1 locs1 h1 h2 => kk H1 locs1 (by rw [sH_A x (h, d) (by decide)] at h1; exact h1) h2)
theorem h_put13 {v : Int32} (X : mX Γ p m c cc nL s args RX10 A) (hw : mW Γ.1 vwCl A L (rM Γ L (sH x (h, d))) H) (hS : va_S A s.heap H locs) (hdg : decode cc pc = .ok (.putfield 225, 3)) (kk : ∀ (H1 : Heap) (locs1 : List Loc), mW Γ.1 vwCl A L (rM Γ L (sH (sS x 13 v) (h, d))) H1 → va_S A s.heap H1 locs1 → W p l e R s m args below meth c H1 locs1 cells slots Q (F0 m (pc + 3) ls rest)) : W p l e R s m args below meth c H locs cells slots Q (F0 m pc ls (.int v :: .ref (L (.inl 0)) :: rest)) := r_put13 X hw hS hdg (fun H1 locs1 h1 h2 => kk H1 locs1 (by rw [sH_S x (h, d) (by decide)] at h1; exact h1) h2)
theorem h_put16 {v : Int32} (X : mX Γ p m c cc nL s args RX10 A) (hw : mW Γ.1 vwCl A L (rM Γ L (sH x (h, d))) H) (hS : va_S A s.heap H locs) (hn : narrow .boolean (.int v) = .int v) (hf : fits .boolean (.int v) = true) (hdg : decode cc pc = .ok (.putfield 212, 3)) (kk : ∀ (H1 : Heap) (locs1 : List Loc), mW Γ.1 vwCl A L (rM Γ L (sH (sS x 16 v) (h, d))) H1 → va_S A s.heap H1 locs1 → W p l e R s m args below meth c H1 locs1 cells slots Q (F0 m (pc + 3) ls rest)) : W p l e R s m args below meth c H locs cells slots Q (F0 m pc ls (.int v :: .ref (L (.inl 0)) :: rest)) := r_put16 X hw hS hn hf hdg (fun H1 locs1 h1 h2 => kk H1 locs1 (by rw [sH_S x (h, d) (by decide)] at h1; exact h1) h2)
theorem h_ast17 {i : Int32} {v : Int32} {n : Nat} (X : mX Γ p m c cc nL s args RX10 A) (hw : mW Γ.1 vwCl A L (rM Γ L (sH x (h, d))) H) (hS : va_S A s.heap H locs) (hi : i = nI n) (hn : n < 8) (hdg : decode cc pc = .ok (.iastore, 1)) (kk : ∀ (H1 : Heap) (locs1 : List Loc), mW Γ.1 vwCl A L (rM Γ L (sH (sA x 17 n v) (h, d))) H1 → va_S A s.heap H1 locs1 → W p l e R s m args below meth c H1 locs1 cells slots Q (F0 m (pc + 1) ls rest)) : W p l e R s m args below meth c H locs cells slots Q (F0 m pc ls (.int v :: .int i :: .ref (L (.inr (0, 17, 0))) :: rest)) := r_ast17N X hw hS hi hn hdg (fun H1 locs1 h1 h2 => kk H1 locs1 (by rw [sH_A x (h, d) (by decide)] at h1; exact h1) h2)
theorem h_ast18 {i : Int32} {v : Int64} {n : Nat} (X : mX Γ p m c cc nL s args RX10 A) (hw : mW Γ.1 vwCl A L (rM Γ L (sH x (h, d))) H) (hS : va_S A s.heap H locs) (hi : i = nI n) (hn : n < 128) (hdg : decode cc pc = .ok (.lastore, 1)) (kk : ∀ (H1 : Heap) (locs1 : List Loc), mW Γ.1 vwCl A L (rM Γ L (sH (sJ x 18 n v) (h, d))) H1 → va_S A s.heap H1 locs1 → W p l e R s m args below meth c H1 locs1 cells slots Q (F0 m (pc + 1) ls rest)) : W p l e R s m args below meth c H locs cells slots Q (F0 m pc ls (.long v :: .int i :: .ref (L (.inr (0, 18, 0))) :: rest)) := r_ast18N X hw hS hi hn hdg (fun H1 locs1 h1 h2 => kk H1 locs1 (by rw [sH_J] at h1; exact h1) h2)
theorem h_ast19 {i : Int32} {v : Int32} {n : Nat} (X : mX Γ p m c cc nL s args RX10 A) (hw : mW Γ.1 vwCl A L (rM Γ L (sH x (h, d))) H) (hS : va_S A s.heap H locs) (hi : i = nI n) (hn : n < 8) (hdg : decode cc pc = .ok (.iastore, 1)) (kk : ∀ (H1 : Heap) (locs1 : List Loc), mW Γ.1 vwCl A L (rM Γ L (sH (sA x 19 n v) (h, d))) H1 → va_S A s.heap H1 locs1 → W p l e R s m args below meth c H1 locs1 cells slots Q (F0 m (pc + 1) ls rest)) : W p l e R s m args below meth c H locs cells slots Q (F0 m pc ls (.int v :: .int i :: .ref (L (.inr (0, 19, 0))) :: rest)) := r_ast19N X hw hS hi hn hdg (fun H1 locs1 h1 h2 => kk H1 locs1 (by rw [sH_A x (h, d) (by decide)] at h1; exact h1) h2)
theorem h_ast20 {i : Int32} {v : Int32} {n : Nat} (X : mX Γ p m c cc nL s args RX10 A) (hw : mW Γ.1 vwCl A L (rM Γ L (sH x (h, d))) H) (hS : va_S A s.heap H locs) (hi : i = nI n) (hn : n < 8) (hdg : decode cc pc = .ok (.iastore, 1)) (kk : ∀ (H1 : Heap) (locs1 : List Loc), mW Γ.1 vwCl A L (rM Γ L (sH (sA x 20 n v) (h, d))) H1 → va_S A s.heap H1 locs1 → W p l e R s m args below meth c H1 locs1 cells slots Q (F0 m (pc + 1) ls rest)) : W p l e R s m args below meth c H locs cells slots Q (F0 m pc ls (.int v :: .int i :: .ref (L (.inr (0, 20, 0))) :: rest)) := r_ast20N X hw hS hi hn hdg (fun H1 locs1 h1 h2 => kk H1 locs1 (by rw [sH_A x (h, d) (by decide)] at h1; exact h1) h2)
theorem h_ast21 {i : Int32} {v : Int32} {n : Nat} (X : mX Γ p m c cc nL s args RX10 A) (hw : mW Γ.1 vwCl A L (rM Γ L (sH x (h, d))) H) (hS : va_S A s.heap H locs) (hi : i = nI n) (hn : n < 8) (hdg : decode cc pc = .ok (.iastore, 1)) (kk : ∀ (H1 : Heap) (locs1 : List Loc), mW Γ.1 vwCl A L (rM Γ L (sH (sA x 21 n v) (h, d))) H1 → va_S A s.heap H1 locs1 → W p l e R s m args below meth c H1 locs1 cells slots Q (F0 m (pc + 1) ls rest)) : W p l e R s m args below meth c H locs cells slots Q (F0 m pc ls (.int v :: .int i :: .ref (L (.inr (0, 21, 0))) :: rest)) := r_ast21N X hw hS hi hn hdg (fun H1 locs1 h1 h2 => kk H1 locs1 (by rw [sH_A x (h, d) (by decide)] at h1; exact h1) h2)
theorem h_put22 {v : Int32} (X : mX Γ p m c cc nL s args RX10 A) (hw : mW Γ.1 vwCl A L (rM Γ L (sH x (h, d))) H) (hS : va_S A s.heap H locs) (hdg : decode cc pc = .ok (.putfield 235, 3)) (kk : ∀ (H1 : Heap) (locs1 : List Loc), mW Γ.1 vwCl A L (rM Γ L (sH (sS x 22 v) (h, d))) H1 → va_S A s.heap H1 locs1 → W p l e R s m args below meth c H1 locs1 cells slots Q (F0 m (pc + 3) ls rest)) : W p l e R s m args below meth c H locs cells slots Q (F0 m pc ls (.int v :: .ref (L (.inl 0)) :: rest)) := r_put22 X hw hS hdg (fun H1 locs1 h1 h2 => kk H1 locs1 (by rw [sH_S x (h, d) (by decide)] at h1; exact h1) h2)
theorem h_put23 {v : Int32} (X : mX Γ p m c cc nL s args RX10 A) (hw : mW Γ.1 vwCl A L (rM Γ L (sH x (h, d))) H) (hS : va_S A s.heap H locs) (hdg : decode cc pc = .ok (.putfield 248, 3)) (kk : ∀ (H1 : Heap) (locs1 : List Loc), mW Γ.1 vwCl A L (rM Γ L (sH (sS x 23 v) (h, d))) H1 → va_S A s.heap H1 locs1 → W p l e R s m args below meth c H1 locs1 cells slots Q (F0 m (pc + 3) ls rest)) : W p l e R s m args below meth c H locs cells slots Q (F0 m pc ls (.int v :: .ref (L (.inl 0)) :: rest)) := r_put23 X hw hS hdg (fun H1 locs1 h1 h2 => kk H1 locs1 (by rw [sH_S x (h, d) (by decide)] at h1; exact h1) h2)
theorem h_ast24 {i : Int32} {v : Int32} {n : Nat} (X : mX Γ p m c cc nL s args RX10 A) (hw : mW Γ.1 vwCl A L (rM Γ L (sH x (h, d))) H) (hS : va_S A s.heap H locs) (hi : i = nI n) (hn : n < 20) (hdg : decode cc pc = .ok (.iastore, 1)) (kk : ∀ (H1 : Heap) (locs1 : List Loc), mW Γ.1 vwCl A L (rM Γ L (sH (sA x 24 n v) (h, d))) H1 → va_S A s.heap H1 locs1 → W p l e R s m args below meth c H1 locs1 cells slots Q (F0 m (pc + 1) ls rest)) : W p l e R s m args below meth c H locs cells slots Q (F0 m pc ls (.int v :: .int i :: .ref (L (.inr (0, 24, 0))) :: rest)) := r_ast24N X hw hS hi hn hdg (fun H1 locs1 h1 h2 => kk H1 locs1 (by rw [sH_A x (h, d) (by decide)] at h1; exact h1) h2)
theorem h_ast25 {i : Int32} {v : Int32} {n : Nat} (X : mX Γ p m c cc nL s args RX10 A) (hw : mW Γ.1 vwCl A L (rM Γ L (sH x (h, d))) H) (hS : va_S A s.heap H locs) (hi : i = nI n) (hn : n < 20) (hdg : decode cc pc = .ok (.iastore, 1)) (kk : ∀ (H1 : Heap) (locs1 : List Loc), mW Γ.1 vwCl A L (rM Γ L (sH (sA x 25 n v) (h, d))) H1 → va_S A s.heap H1 locs1 → W p l e R s m args below meth c H1 locs1 cells slots Q (F0 m (pc + 1) ls rest)) : W p l e R s m args below meth c H locs cells slots Q (F0 m pc ls (.int v :: .int i :: .ref (L (.inr (0, 25, 0))) :: rest)) := r_ast25N X hw hS hi hn hdg (fun H1 locs1 h1 h2 => kk H1 locs1 (by rw [sH_A x (h, d) (by decide)] at h1; exact h1) h2)
theorem h_ast26 {i : Int32} {v : Int32} {n : Nat} (X : mX Γ p m c cc nL s args RX10 A) (hw : mW Γ.1 vwCl A L (rM Γ L (sH x (h, d))) H) (hS : va_S A s.heap H locs) (hi : i = nI n) (hn : n < 20) (hdg : decode cc pc = .ok (.iastore, 1)) (kk : ∀ (H1 : Heap) (locs1 : List Loc), mW Γ.1 vwCl A L (rM Γ L (sH (sA x 26 n v) (h, d))) H1 → va_S A s.heap H1 locs1 → W p l e R s m args below meth c H1 locs1 cells slots Q (F0 m (pc + 1) ls rest)) : W p l e R s m args below meth c H locs cells slots Q (F0 m pc ls (.int v :: .int i :: .ref (L (.inr (0, 26, 0))) :: rest)) := r_ast26N X hw hS hi hn hdg (fun H1 locs1 h1 h2 => kk H1 locs1 (by rw [sH_A x (h, d) (by decide)] at h1; exact h1) h2)
theorem h_ast27 {i : Int32} {v : Int64} {n : Nat} (X : mX Γ p m c cc nL s args RX10 A) (hw : mW Γ.1 vwCl A L (rM Γ L (sH x (h, d))) H) (hS : va_S A s.heap H locs) (hi : i = nI n) (hn : n < 600) (hdg : decode cc pc = .ok (.lastore, 1)) (kk : ∀ (H1 : Heap) (locs1 : List Loc), mW Γ.1 vwCl A L (rM Γ L (sH (sJ x 27 n v) (h, d))) H1 → va_S A s.heap H1 locs1 → W p l e R s m args below meth c H1 locs1 cells slots Q (F0 m (pc + 1) ls rest)) : W p l e R s m args below meth c H locs cells slots Q (F0 m pc ls (.long v :: .int i :: .ref (L (.inr (0, 27, 0))) :: rest)) := r_ast27N X hw hS hi hn hdg (fun H1 locs1 h1 h2 => kk H1 locs1 (by rw [sH_J] at h1; exact h1) h2)
theorem h_put28 {v : Int32} (X : mX Γ p m c cc nL s args RX10 A) (hw : mW Γ.1 vwCl A L (rM Γ L (sH x (h, d))) H) (hS : va_S A s.heap H locs) (hdg : decode cc pc = .ok (.putfield 263, 3)) (kk : ∀ (H1 : Heap) (locs1 : List Loc), mW Γ.1 vwCl A L (rM Γ L (sH (sS x 28 v) (h, d))) H1 → va_S A s.heap H1 locs1 → W p l e R s m args below meth c H1 locs1 cells slots Q (F0 m (pc + 3) ls rest)) : W p l e R s m args below meth c H locs cells slots Q (F0 m pc ls (.int v :: .ref (L (.inl 0)) :: rest)) := r_put28 X hw hS hdg (fun H1 locs1 h1 h2 => kk H1 locs1 (by rw [sH_S x (h, d) (by decide)] at h1; exact h1) h2)
theorem h_put29 {v : Int32} (X : mX Γ p m c cc nL s args RX10 A) (hw : mW Γ.1 vwCl A L (rM Γ L (sH x (h, d))) H) (hS : va_S A s.heap H locs) (hdg : decode cc pc = .ok (.putfield 251, 3)) (kk : ∀ (H1 : Heap) (locs1 : List Loc), mW Γ.1 vwCl A L (rM Γ L (sH (sS x 29 v) (h, d))) H1 → va_S A s.heap H1 locs1 → W p l e R s m args below meth c H1 locs1 cells slots Q (F0 m (pc + 3) ls rest)) : W p l e R s m args below meth c H locs cells slots Q (F0 m pc ls (.int v :: .ref (L (.inl 0)) :: rest)) := r_put29 X hw hS hdg (fun H1 locs1 h1 h2 => kk H1 locs1 (by rw [sH_S x (h, d) (by decide)] at h1; exact h1) h2)
theorem h_put30 {v : Int32} (X : mX Γ p m c cc nL s args RX10 A) (hw : mW Γ.1 vwCl A L (rM Γ L (sH x (h, d))) H) (hS : va_S A s.heap H locs) (hdg : decode cc pc = .ok (.putfield 254, 3)) (kk : ∀ (H1 : Heap) (locs1 : List Loc), mW Γ.1 vwCl A L (rM Γ L (sH (sS x 30 v) (h, d))) H1 → va_S A s.heap H1 locs1 → W p l e R s m args below meth c H1 locs1 cells slots Q (F0 m (pc + 3) ls rest)) : W p l e R s m args below meth c H locs cells slots Q (F0 m pc ls (.int v :: .ref (L (.inl 0)) :: rest)) := r_put30 X hw hS hdg (fun H1 locs1 h1 h2 => kk H1 locs1 (by rw [sH_S x (h, d) (by decide)] at h1; exact h1) h2)
theorem h_put31 {v : Int32} (X : mX Γ p m c cc nL s args RX10 A) (hw : mW Γ.1 vwCl A L (rM Γ L (sH x (h, d))) H) (hS : va_S A s.heap H locs) (hdg : decode cc pc = .ok (.putfield 257, 3)) (kk : ∀ (H1 : Heap) (locs1 : List Loc), mW Γ.1 vwCl A L (rM Γ L (sH (sS x 31 v) (h, d))) H1 → va_S A s.heap H1 locs1 → W p l e R s m args below meth c H1 locs1 cells slots Q (F0 m (pc + 3) ls rest)) : W p l e R s m args below meth c H locs cells slots Q (F0 m pc ls (.int v :: .ref (L (.inl 0)) :: rest)) := r_put31 X hw hS hdg (fun H1 locs1 h1 h2 => kk H1 locs1 (by rw [sH_S x (h, d) (by decide)] at h1; exact h1) h2)
theorem h_put32 {v : Int32} (X : mX Γ p m c cc nL s args RX10 A) (hw : mW Γ.1 vwCl A L (rM Γ L (sH x (h, d))) H) (hS : va_S A s.heap H locs) (hdg : decode cc pc = .ok (.putfield 260, 3)) (kk : ∀ (H1 : Heap) (locs1 : List Loc), mW Γ.1 vwCl A L (rM Γ L (sH (sS x 32 v) (h, d))) H1 → va_S A s.heap H1 locs1 → W p l e R s m args below meth c H1 locs1 cells slots Q (F0 m (pc + 3) ls rest)) : W p l e R s m args below meth c H locs cells slots Q (F0 m pc ls (.int v :: .ref (L (.inl 0)) :: rest)) := r_put32 X hw hS hdg (fun H1 locs1 h1 h2 => kk H1 locs1 (by rw [sH_S x (h, d) (by decide)] at h1; exact h1) h2)
theorem h_put33 {v : Int32} (X : mX Γ p m c cc nL s args RX10 A) (hw : mW Γ.1 vwCl A L (rM Γ L (sH x (h, d))) H) (hS : va_S A s.heap H locs) (hn : narrow .boolean (.int v) = .int v) (hf : fits .boolean (.int v) = true) (hdg : decode cc pc = .ok (.putfield 245, 3)) (kk : ∀ (H1 : Heap) (locs1 : List Loc), mW Γ.1 vwCl A L (rM Γ L (sH (sS x 33 v) (h, d))) H1 → va_S A s.heap H1 locs1 → W p l e R s m args below meth c H1 locs1 cells slots Q (F0 m (pc + 3) ls rest)) : W p l e R s m args below meth c H locs cells slots Q (F0 m pc ls (.int v :: .ref (L (.inl 0)) :: rest)) := r_put33 X hw hS hn hf hdg (fun H1 locs1 h1 h2 => kk H1 locs1 (by rw [sH_S x (h, d) (by decide)] at h1; exact h1) h2)
theorem h_put34 {v : Int32} (X : mX Γ p m c cc nL s args RX10 A) (hw : mW Γ.1 vwCl A L (rM Γ L (sH x (h, d))) H) (hS : va_S A s.heap H locs) (hdg : decode cc pc = .ok (.putfield 273, 3)) (kk : ∀ (H1 : Heap) (locs1 : List Loc), mW Γ.1 vwCl A L (rM Γ L (sH (sS x 34 v) (h, d))) H1 → va_S A s.heap H1 locs1 → W p l e R s m args below meth c H1 locs1 cells slots Q (F0 m (pc + 3) ls rest)) : W p l e R s m args below meth c H locs cells slots Q (F0 m pc ls (.int v :: .ref (L (.inl 0)) :: rest)) := r_put34 X hw hS hdg (fun H1 locs1 h1 h2 => kk H1 locs1 (by rw [sH_S x (h, d) (by decide)] at h1; exact h1) h2)
end HX
end
section
/-! THE REFERENCE'S FACE, first part -/
theorem r_isIn_iff (v a b : Int64) : r_isIn v a b = true ↔ a.toInt ≤ v.toInt ∧ v.toInt ≤ b.toInt := by
  unfold r_isIn
  simp only [Bool.and_eq_true, Bool.not_eq_true', decide_eq_false_iff_not, Int64.lt_iff_toInt_lt]
  omega
theorem i64_toInt (a : Int32) : a.toInt64.toInt = a.toInt := by simp
def r_isM (n : Nat) (a : Int32) : Bool := decide (0 ≤ a.toInt ∧ a.toInt < n)
theorem nat_of_toInt {a : Int32} (h : 0 ≤ a.toInt) : a = nI a.toInt.toNat ∧ a.toInt.toNat < 2 ^ 31 := by
  have hlt : a.toInt < 2 ^ 31 := by have := Int32.toInt_lt a; omega
  have h2 : a.toInt.toNat < 2 ^ 31 := by omega
  refine ⟨Int32.toInt_inj.mp ?_, h2⟩
  rw [nI_toInt h2]
  omega
theorem isM_nat {n : Nat} {a : Int32} (h : r_isM n a = true) : ∃ k : Nat, k < n ∧ a = nI k := by
  have h1 := of_decide_eq_true h
  obtain ⟨e, -⟩ := nat_of_toInt h1.1
  exact ⟨a.toInt.toNat, by omega, e⟩
theorem isM_eq {n : Nat} {a : Int32} (h8 : n ≤ 8) : r_isIn a.toInt64 0 ((nI n - 1).toInt64) = r_isM n a := by
  apply Bool.eq_iff_iff.mpr
  rw [r_isIn_iff, i64_toInt, i64_toInt]
  unfold r_isM
  rw [decide_eq_true_iff]
  have e : (nI n - 1).toInt = (n : Int) - 1 := by
    have := pk_sub_toInt (a := n) (b := 1) (by omega) (by decide)
    exact this
  rw [e]
  show (0 : Int) ≤ a.toInt ∧ a.toInt ≤ (n : Int) - 1 ↔ _
  omega
theorem isIn_nat {a : Int32} {lo hi : Int64} {l h : Nat} (hl : lo.toInt = l) (hh : hi.toInt = h) (c : r_isIn a.toInt64 lo hi = true) : ∃ k : Nat, l ≤ k ∧ k ≤ h ∧ k < 2 ^ 31 ∧ a = nI k := by
  have h1 := (r_isIn_iff _ _ _).mp c
  rw [i64_toInt, hl, hh] at h1
  obtain ⟨e, e2⟩ := nat_of_toInt (a := a) (by omega)
  exact ⟨a.toInt.toNat, by omega, by omega, e2, e⟩
def r_kinds (a b c : Int32) : Int32 := if r_isKind a = true ∧ r_isKind b = true then (if c = 0 then r_joined a b else bI (r_goes a b)) else -1
def r_told (x : RS) (a : Int32) : Int32 := if a = 0 then x.1 29 else if a = 1 then x.1 30 else if a = 2 then x.1 23 else if a = 3 then (if x.1 33 = 0 then -99999999 else x.1 31) else if a = 4 then (if x.1 33 = 0 then -99999999 else x.1 32) else -1
theorem r_told_out {x : RS} {a : Int32} (h : a.toInt < 0 ∨ 4 < a.toInt) : r_told x a = -1 := by
  unfold r_told
  rw [if_neg (fun e => by rw [e] at h; revert h; decide), if_neg (fun e => by rw [e] at h; revert h; decide), if_neg (fun e => by rw [e] at h; revert h; decide), if_neg (fun e => by rw [e] at h; revert h; decide), if_neg (fun e => by rw [e] at h; revert h; decide)]
def r_count (x : RS) (n : Nat) (a b : Int32) : Int32 := if a = 0 then x.1 0 else if r_isIn a.toInt64 1 3 = true ∧ r_isM n b = true then (if a = 1 then x.2.1 2 b.toNatClampNeg else if a = 2 then x.2.1 5 b.toNatClampNeg else if x.2.1 9 b.toNatClampNeg = 0 then 0 else 1) else -1
def fmA (f : Nat → Int32) (o : Nat) (v : Int32) : Nat → Nat → Int32
  | 0 => f
  | n + 1 => upd (fmA f o v n) (o + n) v
def sAs (x : RS) (k : Nat) (f : Nat → Int32) : RS := (x.1, va_up x.2.1 k f, x.2.2)
def r_method (x : RS) (n : Nat) (a : Int32) : Int32 × RS := if r_isIn a.toInt64 0 4 = true then (if n = 8 then (-3, x) else (nI n, sS (sAs (sA x 1 n a) 7 (fmA (x.2.1 7) (40 * n) (-1) 40)) 0 (nI (n + 1)))) else (-1, x)
theorem sAs_0 (x : RS) (k o : Nat) (v : Int32) : sAs x k (fmA (x.2.1 k) o v 0) = x := by
  unfold sAs fmA
  have e : va_up x.2.1 k (x.2.1 k) = x.2.1 := by
    funext j
    by_cases h : j = k
    · subst h; simp [va_up]
    · simp [va_up, h]
  rw [e]
theorem sAs_fm (x y : RS) (k o t : Nat) (v : Int32) : sA (sAs x k (fmA (y.2.1 k) o v t)) k (o + t) v = sAs x k (fmA (y.2.1 k) o v (t + 1)) := by
  unfold sA sAs
  show (x.1, va_up (va_up x.2.1 k (fmA (y.2.1 k) o v t)) k (upd (va_up x.2.1 k (fmA (y.2.1 k) o v t) k) (o + t) v), x.2.2) = _
  rw [va_upup]
  have e : va_up x.2.1 k (fmA (y.2.1 k) o v t) k = fmA (y.2.1 k) o v t := by simp [va_up]
  rw [e]
  rfl
def r_op (x : RS) (n : Nat) (om : Nat → Nat) (a o : Int32) (v : Int64) : Int32 × RS := if r_isM n a = true then (if om a.toNatClampNeg = 40 then (-3, x) else (nI (om a.toNatClampNeg), sA (sA (sJ (sA x 3 (40 * a.toNatClampNeg + om a.toNatClampNeg) o) 4 (40 * a.toNatClampNeg + om a.toNatClampNeg) v) 2 a.toNatClampNeg (nI (om a.toNatClampNeg + 1))) 9 a.toNatClampNeg 0)) else (-1, x)
theorem v_X10_isMethod : mVm yX10_isMethod cX10_isMethod 2 (some .boolean) 1 := ⟨cd_X10_isMethod, im_X10_isMethod, se_X10_isMethod, ini_X10, by decide, by decide, by decide +kernel⟩
set_option maxHeartbeats 4000000 in
set_option maxRecDepth 100000 in
theorem k_X10_isMethod (Γ : mG) (l : Launch) (L : mI → Nat) (x : RS) (a : Int32) (n : Nat) (hn : x.1 0 = nI n) (h8 : n ≤ 8) : mMet Γ l yX10_isMethod cX10_isMethod 2 (some .boolean) { frames := 1, cells := 0, slots := 0, locals := 25 } [.ref (L (.inl 0)), .int a] L (rM Γ L x) (mQi Γ (fun r L1 M1 => r = bI (r_isM n a) ∧ L1 = L ∧ M1 = rM Γ L x)) := by
  refine m_start (by decide) (Nat.le_of_ble_eq_true rfl) ?_
  intro p e s m args below meth c A ls X hr hlk hnm hw hS hl
  have hx := X.1.1
  have hb := X.1.2.1
  have hl : lv_has ls 2 [(0, .ref (L (.inl 0))), (1, .int a)] := hl
  refine lv_iload_n hx hb dX10_isMethod_0 rfl (lv_at hl 1 rfl) ?_
  refine lv_i2l (v := a.toInt64) hx hb dX10_isMethod_1 rfl ?_
  refine lv_lconst (v := 0) hx hb dX10_isMethod_2 (by decide) ?_
  refine lv_aload_n hx hb dX10_isMethod_3 rfl (lv_at hl 0 rfl) ?_
  refine r_get0 X hw dX10_isMethod_4 ?_
  refine lv_iconst (v := 1) hx hb dX10_isMethod_7 (by decide) ?_
  refine lv_isub hx hb dX10_isMethod_8 ?_
  refine lv_i2l (v := ((x.1 0) - 1).toInt64) hx hb dX10_isMethod_9 rfl ?_
  refine m_calli (m_runS (As := [.long a.toInt64, .long 0, .long (((x.1 0) - 1).toInt64)]) (rest := []) X (k_X10_isIn Γ l L (rM Γ L x) a.toInt64 0 (((x.1 0) - 1).toInt64)) s_X10_isIn ml_X10_79 hw hS rfl hl.1 ⟨Nat.le_of_ble_eq_true rfl, Nat.le_of_ble_eq_true rfl⟩ (Nat.le_of_ble_eq_true rfl) ⟨Nat.le_of_ble_eq_true rfl, Nat.le_of_ble_eq_true rfl⟩ dX10_isMethod_10) hS (fun r_2 L1 M1 H locs hp_1 hw hS => ?_)
  obtain ⟨rfl, e1, e2⟩ := hp_1
  rw [e1, e2] at hw; clear e1 e2
  exact m_zret (b := r_isM n a) X hr hlk hw hS (Nat.zero_le _) (Nat.zero_le _) (by rw [hn, isM_eq h8]) ⟨rfl, rfl, rfl⟩ dX10_isMethod_13
theorem v_X10_kinds : mVm yX10_kinds cX10_kinds 4 (some .int) 3 := ⟨cd_X10_kinds, im_X10_kinds, se_X10_kinds, ini_X10, by decide, by decide, by decide +kernel⟩
set_option maxHeartbeats 4000000 in
set_option maxRecDepth 100000 in
theorem k_X10_kinds (Γ : mG) (l : Launch) (L : mI → Nat) (x : RS) (a : Int32) (b : Int32) (g : Int32)  : mMet Γ l yX10_kinds cX10_kinds 4 (some .int) { frames := 4, cells := 0, slots := 0, locals := 86 } [.ref (L (.inl 0)), .int a, .int b, .int g] L (rM Γ L x) (mQi Γ (fun r L1 M1 => r = r_kinds a b g ∧ L1 = L ∧ M1 = rM Γ L x)) := by
  refine m_start (by decide) (Nat.le_of_ble_eq_true rfl) ?_
  intro p e s m args below meth c A ls X hr hlk hnm hw hS hl
  have hx := X.1.1
  have hb := X.1.2.1
  have hl : lv_has ls 4 [(0, .ref (L (.inl 0))), (1, .int a), (2, .int b), (3, .int g)] := hl
  refine lv_iload_n hx hb dX10_kinds_0 rfl (lv_at hl 1 rfl) ?_
  refine m_calli (m_runS (As := [.int a]) (rest := []) X (k_X10_isKind Γ l L (rM Γ L x) a) s_X10_isKind ml_X10_119 hw hS rfl hl.1 ⟨Nat.le_of_ble_eq_true rfl, Nat.le_of_ble_eq_true rfl⟩ (Nat.le_of_ble_eq_true rfl) ⟨Nat.le_of_ble_eq_true rfl, Nat.le_of_ble_eq_true rfl⟩ dX10_kinds_1) hS (fun r_2 L1 M1 H locs hp_1 hw hS => ?_)
  obtain ⟨rfl, e1, e2⟩ := hp_1
  rw [e1, e2] at hw; clear e1 e2
  refine lv_if_eq (tgt := 14) hx hb dX10_kinds_4 (by decide) (fun c_3 => ?_) (fun c_3 => ?_)
  · skip
    have c_3 := bI_f c_3
    refine lv_iconst (v := (-1)) hx hb dX10_kinds_14 (by decide) ?_
    exact m_iret X hr hlk hw hS (Nat.zero_le _) (Nat.zero_le _) ⟨by clear hb hx hl hS hw hnm hlk hr X; first | rfl | (simp_all [bI, r_kinds]; done) | (simp_all [bI, r_kinds]; rfl), rfl, rfl⟩ dX10_kinds_15
  · skip
    have c_3 := bI_t c_3
    refine lv_iload_n hx hb dX10_kinds_7 rfl (lv_at hl 2 rfl) ?_
    refine m_calli (m_runS (As := [.int b]) (rest := []) X (k_X10_isKind Γ l L (rM Γ L x) b) s_X10_isKind ml_X10_119 hw hS rfl hl.1 ⟨Nat.le_of_ble_eq_true rfl, Nat.le_of_ble_eq_true rfl⟩ (Nat.le_of_ble_eq_true rfl) ⟨Nat.le_of_ble_eq_true rfl, Nat.le_of_ble_eq_true rfl⟩ dX10_kinds_8) hS (fun r_6 L1 M1 H locs hp_5 hw hS => ?_)
    obtain ⟨rfl, e1, e2⟩ := hp_5
    rw [e1, e2] at hw; clear e1 e2
    refine lv_if_ne (tgt := 16) hx hb dX10_kinds_11 (by decide) (fun c_7 => ?_) (fun c_7 => ?_)
    · skip
      have c_7 := bI_t c_7
      refine lv_iload_n hx hb dX10_kinds_16 rfl (lv_at hl 3 rfl) ?_
      refine lv_if_ne (tgt := 28) hx hb dX10_kinds_17 (by decide) (fun c_9 => ?_) (fun c_9 => ?_)
      · skip
        refine lv_iload_n hx hb dX10_kinds_28 rfl (lv_at hl 1 rfl) ?_
        refine lv_iload_n hx hb dX10_kinds_29 rfl (lv_at hl 2 rfl) ?_
        refine m_calli (m_runS (As := [.int a, .int b]) (rest := []) X (k_X10_goes Γ l L (rM Γ L x) a b) s_X10_goes ml_X10_125 hw hS rfl hl.1 ⟨Nat.le_of_ble_eq_true rfl, Nat.le_of_ble_eq_true rfl⟩ (Nat.le_of_ble_eq_true rfl) ⟨Nat.le_of_ble_eq_true rfl, Nat.le_of_ble_eq_true rfl⟩ dX10_kinds_30) hS (fun r_12 L1 M1 H locs hp_11 hw hS => ?_)
        obtain ⟨rfl, e1, e2⟩ := hp_11
        rw [e1, e2] at hw; clear e1 e2
        refine lv_if_eq (tgt := 40) hx hb dX10_kinds_33 (by decide) (fun c_13 => ?_) (fun c_13 => ?_)
        · skip
          have c_13 := bI_f c_13
          refine lv_iconst (v := 0) hx hb dX10_kinds_40 (by decide) ?_
          exact m_iret X hr hlk hw hS (Nat.zero_le _) (Nat.zero_le _) ⟨by clear hb hx hl hS hw hnm hlk hr X; first | rfl | (simp_all [bI, r_kinds]; done) | (simp_all [bI, r_kinds]; rfl), rfl, rfl⟩ dX10_kinds_41
        · skip
          have c_13 := bI_t c_13
          refine lv_iconst (v := 1) hx hb dX10_kinds_36 (by decide) ?_
          refine lv_goto (tgt := 41) hx hb dX10_kinds_37 (by decide) ?_
          exact m_iret X hr hlk hw hS (Nat.zero_le _) (Nat.zero_le _) ⟨by clear hb hx hl hS hw hnm hlk hr X; first | rfl | (simp_all [bI, r_kinds]; done) | (simp_all [bI, r_kinds]; rfl), rfl, rfl⟩ dX10_kinds_41
      · skip
        refine lv_iload_n hx hb dX10_kinds_20 rfl (lv_at hl 1 rfl) ?_
        refine lv_iload_n hx hb dX10_kinds_21 rfl (lv_at hl 2 rfl) ?_
        refine m_calli (m_runS (As := [.int a, .int b]) (rest := []) X (k_X10_joined Γ l L (rM Γ L x) a b) s_X10_joined ml_X10_122 hw hS rfl hl.1 ⟨Nat.le_of_ble_eq_true rfl, Nat.le_of_ble_eq_true rfl⟩ (Nat.le_of_ble_eq_true rfl) ⟨Nat.le_of_ble_eq_true rfl, Nat.le_of_ble_eq_true rfl⟩ dX10_kinds_22) hS (fun r_16 L1 M1 H locs hp_15 hw hS => ?_)
        obtain ⟨rfl, e1, e2⟩ := hp_15
        rw [e1, e2] at hw; clear e1 e2
        refine lv_goto (tgt := 41) hx hb dX10_kinds_25 (by decide) ?_
        exact m_iret X hr hlk hw hS (Nat.zero_le _) (Nat.zero_le _) ⟨by clear hb hx hl hS hw hnm hlk hr X; first | rfl | (simp_all [bI, r_kinds]; done) | (simp_all [bI, r_kinds]; rfl), rfl, rfl⟩ dX10_kinds_41
    · skip
      have c_7 := bI_f c_7
      refine lv_iconst (v := (-1)) hx hb dX10_kinds_14 (by decide) ?_
      exact m_iret X hr hlk hw hS (Nat.zero_le _) (Nat.zero_le _) ⟨by clear hb hx hl hS hw hnm hlk hr X; first | rfl | (simp_all [bI, r_kinds]; done) | (simp_all [bI, r_kinds]; rfl), rfl, rfl⟩ dX10_kinds_15
theorem v_X10_changed : mVm yX10_changed cX10_changed 2 none 1 := ⟨cd_X10_changed, im_X10_changed, se_X10_changed, ini_X10, by decide, by decide, by decide +kernel⟩
set_option maxHeartbeats 4000000 in
set_option maxRecDepth 100000 in
theorem k_X10_changed (Γ : mG) (l : Launch) (L : mI → Nat) (x : RS) (a : Int32) (k : Nat) (hk : a = nI k) (h8 : k < 8) : mMet Γ l yX10_changed cX10_changed 2 none { frames := 0, cells := 0, slots := 0, locals := 0 } [.ref (L (.inl 0)), .int a] L (rM Γ L x) (mQv Γ (fun L1 M1 => L1 = L ∧ M1 = rM Γ L (sA x 9 k 0))) := by
  refine m_start (by decide) (Nat.le_of_ble_eq_true rfl) ?_
  intro p e s m args below meth c A ls X hr hlk hnm hw hS hl
  have hx := X.1.1
  have hb := X.1.2.1
  have hl : lv_has ls 2 [(0, .ref (L (.inl 0))), (1, .int a)] := hl
  refine lv_aload_n hx hb dX10_changed_0 rfl (lv_at hl 0 rfl) ?_
  refine r_get9 X hw dX10_changed_1 ?_
  refine lv_iload_n hx hb dX10_changed_4 rfl (lv_at hl 1 rfl) ?_
  refine lv_iconst (v := 0) hx hb dX10_changed_5 (by decide) ?_
  refine r_ast9N X hw hS hk (by omega) dX10_changed_6 (fun H locs hw hS => ?_)
  exact m_vret X hr hlk hw hS (Nat.zero_le _) (Nat.zero_le _) ⟨rfl, by clear hb hx hl hS hw hnm hlk hr X; first | rfl | (simp_all [bI, sA]; done) | (simp_all [bI, sA]; rfl)⟩ dX10_changed_7
theorem v_X10_told : mVm yX10_told cX10_told 2 (some .int) 1 := ⟨cd_X10_told, im_X10_told, se_X10_told, ini_X10, by decide, by decide, by decide +kernel⟩
set_option maxHeartbeats 4000000 in
set_option maxRecDepth 100000 in
theorem k_X10_told (Γ : mG) (l : Launch) (L : mI → Nat) (x : RS) (a : Int32)  : mMet Γ l yX10_told cX10_told 2 (some .int) { frames := 0, cells := 0, slots := 0, locals := 0 } [.ref (L (.inl 0)), .int a] L (rM Γ L x) (mQi Γ (fun r L1 M1 => r = r_told x a ∧ L1 = L ∧ M1 = rM Γ L x)) := by
  refine m_start (by decide) (Nat.le_of_ble_eq_true rfl) ?_
  intro p e s m args below meth c A ls X hr hlk hnm hw hS hl
  have hx := X.1.1
  have hb := X.1.2.1
  have hl : lv_has ls 2 [(0, .ref (L (.inl 0))), (1, .int a)] := hl
  refine lv_iload_n hx hb dX10_told_0 rfl (lv_at hl 1 rfl) ?_
  by_cases c_1 : a.toInt < 0 ∨ 4 < a.toInt
  · refine lv_tableOut (tgt := 85) hx hb dX10_told_1 c_1 (by decide) ?_
    refine lv_iconst (v := (-1)) hx hb dX10_told_85 (by decide) ?_
    exact m_iret X hr hlk hw hS (Nat.zero_le _) (Nat.zero_le _) ⟨by clear hb hx hl hS hw hnm hlk hr X; first | exact (r_told_out (by assumption)).symm | rfl | (simp_all [bI, r_told]; done) | (simp_all [bI, r_told]; rfl), rfl, rfl⟩ dX10_told_86
  · have c_1b : a.toInt = 0 ∨ a.toInt = 1 ∨ a.toInt = 2 ∨ a.toInt = 3 ∨ a.toInt = 4 := by omega
    rcases c_1b with c_1v | c_1v | c_1v | c_1v | c_1v
    · have c_1e : a = 0 := Int32.toInt_inj.mp c_1v
      refine lv_tableIn (off := 35) (tgt := 36) hx hb dX10_told_1 (by omega) (by omega) (by rw [c_1v]; rfl) (by decide) ?_
      refine lv_aload_n hx hb dX10_told_36 rfl (lv_at hl 0 rfl) ?_
      refine r_get29 X hw dX10_told_37 ?_
      exact m_iret X hr hlk hw hS (Nat.zero_le _) (Nat.zero_le _) ⟨by clear hb hx hl hS hw hnm hlk hr X; first | exact (r_told_out (by assumption)).symm | rfl | (simp_all [bI, r_told]; done) | (simp_all [bI, r_told]; rfl), rfl, rfl⟩ dX10_told_40
    · have c_1e : a = 1 := Int32.toInt_inj.mp c_1v
      refine lv_tableIn (off := 40) (tgt := 41) hx hb dX10_told_1 (by omega) (by omega) (by rw [c_1v]; rfl) (by decide) ?_
      refine lv_aload_n hx hb dX10_told_41 rfl (lv_at hl 0 rfl) ?_
      refine r_get30 X hw dX10_told_42 ?_
      exact m_iret X hr hlk hw hS (Nat.zero_le _) (Nat.zero_le _) ⟨by clear hb hx hl hS hw hnm hlk hr X; first | exact (r_told_out (by assumption)).symm | rfl | (simp_all [bI, r_told]; done) | (simp_all [bI, r_told]; rfl), rfl, rfl⟩ dX10_told_45
    · have c_1e : a = 2 := Int32.toInt_inj.mp c_1v
      refine lv_tableIn (off := 45) (tgt := 46) hx hb dX10_told_1 (by omega) (by omega) (by rw [c_1v]; rfl) (by decide) ?_
      refine lv_aload_n hx hb dX10_told_46 rfl (lv_at hl 0 rfl) ?_
      refine r_get23 X hw dX10_told_47 ?_
      exact m_iret X hr hlk hw hS (Nat.zero_le _) (Nat.zero_le _) ⟨by clear hb hx hl hS hw hnm hlk hr X; first | exact (r_told_out (by assumption)).symm | rfl | (simp_all [bI, r_told]; done) | (simp_all [bI, r_told]; rfl), rfl, rfl⟩ dX10_told_50
    · have c_1e : a = 3 := Int32.toInt_inj.mp c_1v
      refine lv_tableIn (off := 50) (tgt := 51) hx hb dX10_told_1 (by omega) (by omega) (by rw [c_1v]; rfl) (by decide) ?_
      refine lv_aload_n hx hb dX10_told_51 rfl (lv_at hl 0 rfl) ?_
      refine r_get33 X hw dX10_told_52 ?_
      refine lv_if_eq (tgt := 65) hx hb dX10_told_55 (by decide) (fun c_2 => ?_) (fun c_2 => ?_)
      · skip
        refine lv_ldc (v := (-99999999)) hx hb X.1.2.2.2.1 (X.1.2.2.2.2 _ ki_X10_234) dX10_told_65 ?_
        exact m_iret X hr hlk hw hS (Nat.zero_le _) (Nat.zero_le _) ⟨by clear hb hx hl hS hw hnm hlk hr X; first | exact (r_told_out (by assumption)).symm | rfl | (simp_all [bI, r_told]; done) | (simp_all [bI, r_told]; rfl), rfl, rfl⟩ dX10_told_67
      · skip
        refine lv_aload_n hx hb dX10_told_58 rfl (lv_at hl 0 rfl) ?_
        refine r_get31 X hw dX10_told_59 ?_
        refine lv_goto (tgt := 67) hx hb dX10_told_62 (by decide) ?_
        exact m_iret X hr hlk hw hS (Nat.zero_le _) (Nat.zero_le _) ⟨by clear hb hx hl hS hw hnm hlk hr X; first | exact (r_told_out (by assumption)).symm | rfl | (simp_all [bI, r_told]; done) | (simp_all [bI, r_told]; rfl), rfl, rfl⟩ dX10_told_67
    · have c_1e : a = 4 := Int32.toInt_inj.mp c_1v
      refine lv_tableIn (off := 67) (tgt := 68) hx hb dX10_told_1 (by omega) (by omega) (by rw [c_1v]; rfl) (by decide) ?_
      refine lv_aload_n hx hb dX10_told_68 rfl (lv_at hl 0 rfl) ?_
      refine r_get33 X hw dX10_told_69 ?_
      refine lv_if_eq (tgt := 82) hx hb dX10_told_72 (by decide) (fun c_4 => ?_) (fun c_4 => ?_)
      · skip
        refine lv_ldc (v := (-99999999)) hx hb X.1.2.2.2.1 (X.1.2.2.2.2 _ ki_X10_234) dX10_told_82 ?_
        exact m_iret X hr hlk hw hS (Nat.zero_le _) (Nat.zero_le _) ⟨by clear hb hx hl hS hw hnm hlk hr X; first | exact (r_told_out (by assumption)).symm | rfl | (simp_all [bI, r_told]; done) | (simp_all [bI, r_told]; rfl), rfl, rfl⟩ dX10_told_84
      · skip
        refine lv_aload_n hx hb dX10_told_75 rfl (lv_at hl 0 rfl) ?_
        refine r_get32 X hw dX10_told_76 ?_
        refine lv_goto (tgt := 84) hx hb dX10_told_79 (by decide) ?_
        exact m_iret X hr hlk hw hS (Nat.zero_le _) (Nat.zero_le _) ⟨by clear hb hx hl hS hw hnm hlk hr X; first | exact (r_told_out (by assumption)).symm | rfl | (simp_all [bI, r_told]; done) | (simp_all [bI, r_told]; rfl), rfl, rfl⟩ dX10_told_84
theorem v_X10_count : mVm yX10_count cX10_count 3 (some .int) 2 := ⟨cd_X10_count, im_X10_count, se_X10_count, ini_X10, by decide, by decide, by decide +kernel⟩
set_option maxHeartbeats 4000000 in
set_option maxRecDepth 100000 in
theorem k_X10_count (Γ : mG) (l : Launch) (L : mI → Nat) (x : RS) (a : Int32) (b : Int32) (n : Nat) (hn : x.1 0 = nI n) (h8 : n ≤ 8) : mMet Γ l yX10_count cX10_count 3 (some .int) { frames := 2, cells := 0, slots := 0, locals := 46 } [.ref (L (.inl 0)), .int a, .int b] L (rM Γ L x) (mQi Γ (fun r L1 M1 => r = r_count x n a b ∧ L1 = L ∧ M1 = rM Γ L x)) := by
  refine m_start (by decide) (Nat.le_of_ble_eq_true rfl) ?_
  intro p e s m args below meth c A ls X hr hlk hnm hw hS hl
  have hx := X.1.1
  have hb := X.1.2.1
  have hl : lv_has ls 3 [(0, .ref (L (.inl 0))), (1, .int a), (2, .int b)] := hl
  refine lv_iload_n hx hb dX10_count_0 rfl (lv_at hl 1 rfl) ?_
  refine lv_if_ne (tgt := 9) hx hb dX10_count_1 (by decide) (fun c_1 => ?_) (fun c_1 => ?_)
  · skip
    refine lv_iload_n hx hb dX10_count_9 rfl (lv_at hl 1 rfl) ?_
    refine lv_i2l (v := a.toInt64) hx hb dX10_count_10 rfl ?_
    refine lv_lconst (v := 1) hx hb dX10_count_11 (by decide) ?_
    refine lv_ldc2 (v := (3)) hx hb X.1.2.2.2.1 (X.1.2.2.2.2 _ kl_X10_278) dX10_count_12 ?_
    refine m_calli (m_runS (As := [.long a.toInt64, .long 1, .long (3)]) (rest := []) X (k_X10_isIn Γ l L (rM Γ L x) a.toInt64 1 (3)) s_X10_isIn ml_X10_79 hw hS rfl hl.1 ⟨Nat.le_of_ble_eq_true rfl, Nat.le_of_ble_eq_true rfl⟩ (Nat.le_of_ble_eq_true rfl) ⟨Nat.le_of_ble_eq_true rfl, Nat.le_of_ble_eq_true rfl⟩ dX10_count_15) hS (fun r_4 L1 M1 H locs hp_3 hw hS => ?_)
    obtain ⟨rfl, e1, e2⟩ := hp_3
    rw [e1, e2] at hw; clear e1 e2
    refine lv_if_eq (tgt := 29) hx hb dX10_count_18 (by decide) (fun c_5 => ?_) (fun c_5 => ?_)
    · skip
      have c_5 := bI_f c_5
      refine lv_iconst (v := (-1)) hx hb dX10_count_29 (by decide) ?_
      exact m_iret X hr hlk hw hS (Nat.zero_le _) (Nat.zero_le _) ⟨by clear hb hx hl hS hw hnm hlk hr X; first | rfl | (simp_all [bI, r_count]; done) | (simp_all [bI, r_count]; rfl), rfl, rfl⟩ dX10_count_30
    · skip
      have c_5 := bI_t c_5
      refine lv_aload_n hx hb dX10_count_21 rfl (lv_at hl 0 rfl) ?_
      refine lv_iload_n hx hb dX10_count_22 rfl (lv_at hl 2 rfl) ?_
      refine m_calli (m_runV (i := .inl 0) (ci := 8) (As := [.int b]) (rest := []) X (k_X10_isMethod Γ l L x b n hn h8) v_X10_isMethod ml_X10_130 hw hS rfl rfl rfl rfl hl.1 ⟨Nat.le_of_ble_eq_true rfl, Nat.le_of_ble_eq_true rfl⟩ (Nat.le_of_ble_eq_true rfl) ⟨Nat.le_of_ble_eq_true rfl, Nat.le_of_ble_eq_true rfl⟩ dX10_count_23) hS (fun r_8 L1 M1 H locs hp_7 hw hS => ?_)
      obtain ⟨rfl, e1, e2⟩ := hp_7
      rw [e1, e2] at hw; clear e1 e2
      refine lv_if_ne (tgt := 31) hx hb dX10_count_26 (by decide) (fun c_9 => ?_) (fun c_9 => ?_)
      · skip
        have c_9 := bI_t c_9
        have c_90 := c_9
        obtain ⟨k_10, hk_k_10, rfl⟩ := isM_nat c_90
        have hc_k_10 : (nI k_10).toNatClampNeg = k_10 := nI_clamp (by omega)
        refine lv_iload_n hx hb dX10_count_31 rfl (lv_at hl 1 rfl) ?_
        refine lv_iconst (v := 1) hx hb dX10_count_32 (by decide) ?_
        refine lv_icmp_ne (tgt := 45) hx hb dX10_count_33 (by decide) (fun c_11 => ?_) (fun c_11 => ?_)
        · skip
          refine lv_iload_n hx hb dX10_count_45 rfl (lv_at hl 1 rfl) ?_
          refine lv_iconst (v := 2) hx hb dX10_count_46 (by decide) ?_
          refine lv_icmp_ne (tgt := 59) hx hb dX10_count_47 (by decide) (fun c_12 => ?_) (fun c_12 => ?_)
          · skip
            refine lv_aload_n hx hb dX10_count_59 rfl (lv_at hl 0 rfl) ?_
            refine r_get9 X hw dX10_count_60 ?_
            refine lv_iload_n hx hb dX10_count_63 rfl (lv_at hl 2 rfl) ?_
            refine r_ald9N X hw rfl (by omega) dX10_count_64 ?_
            refine lv_if_eq (tgt := 72) hx hb dX10_count_65 (by decide) (fun c_13 => ?_) (fun c_13 => ?_)
            · skip
              refine lv_iconst (v := 0) hx hb dX10_count_72 (by decide) ?_
              exact m_iret X hr hlk hw hS (Nat.zero_le _) (Nat.zero_le _) ⟨by clear hb hx hl hS hw hnm hlk hr X; first | rfl | (simp_all [bI, r_count]; done) | (simp_all [bI, r_count]; rfl), rfl, rfl⟩ dX10_count_73
            · skip
              refine lv_iconst (v := 1) hx hb dX10_count_68 (by decide) ?_
              refine lv_goto (tgt := 73) hx hb dX10_count_69 (by decide) ?_
              exact m_iret X hr hlk hw hS (Nat.zero_le _) (Nat.zero_le _) ⟨by clear hb hx hl hS hw hnm hlk hr X; first | rfl | (simp_all [bI, r_count]; done) | (simp_all [bI, r_count]; rfl), rfl, rfl⟩ dX10_count_73
          · skip
            refine lv_aload_n hx hb dX10_count_50 rfl (lv_at hl 0 rfl) ?_
            refine r_get5 X hw dX10_count_51 ?_
            refine lv_iload_n hx hb dX10_count_54 rfl (lv_at hl 2 rfl) ?_
            refine r_ald5N X hw rfl (by omega) dX10_count_55 ?_
            refine lv_goto (tgt := 73) hx hb dX10_count_56 (by decide) ?_
            exact m_iret X hr hlk hw hS (Nat.zero_le _) (Nat.zero_le _) ⟨by clear hb hx hl hS hw hnm hlk hr X; first | rfl | (simp_all [bI, r_count]; done) | (simp_all [bI, r_count]; rfl), rfl, rfl⟩ dX10_count_73
        · skip
          refine lv_aload_n hx hb dX10_count_36 rfl (lv_at hl 0 rfl) ?_
          refine r_get2 X hw dX10_count_37 ?_
          refine lv_iload_n hx hb dX10_count_40 rfl (lv_at hl 2 rfl) ?_
          refine r_ald2N X hw rfl (by omega) dX10_count_41 ?_
          refine lv_goto (tgt := 73) hx hb dX10_count_42 (by decide) ?_
          exact m_iret X hr hlk hw hS (Nat.zero_le _) (Nat.zero_le _) ⟨by clear hb hx hl hS hw hnm hlk hr X; first | rfl | (simp_all [bI, r_count]; done) | (simp_all [bI, r_count]; rfl), rfl, rfl⟩ dX10_count_73
      · skip
        have c_9 := bI_f c_9
        refine lv_iconst (v := (-1)) hx hb dX10_count_29 (by decide) ?_
        exact m_iret X hr hlk hw hS (Nat.zero_le _) (Nat.zero_le _) ⟨by clear hb hx hl hS hw hnm hlk hr X; first | rfl | (simp_all [bI, r_count]; done) | (simp_all [bI, r_count]; rfl), rfl, rfl⟩ dX10_count_30
  · skip
    refine lv_aload_n hx hb dX10_count_4 rfl (lv_at hl 0 rfl) ?_
    refine r_get0 X hw dX10_count_5 ?_
    exact m_iret X hr hlk hw hS (Nat.zero_le _) (Nat.zero_le _) ⟨by clear hb hx hl hS hw hnm hlk hr X; first | rfl | (simp_all [bI, r_count]; done) | (simp_all [bI, r_count]; rfl), rfl, rfl⟩ dX10_count_8
theorem v_X10_rounds : mVm yX10_rounds cX10_rounds 1 (some .int) 0 := ⟨cd_X10_rounds, im_X10_rounds, se_X10_rounds, ini_X10, by decide, by decide, by decide +kernel⟩
set_option maxHeartbeats 4000000 in
set_option maxRecDepth 100000 in
theorem k_X10_rounds (Γ : mG) (l : Launch) (L : mI → Nat) (x : RS)   : mMet Γ l yX10_rounds cX10_rounds 1 (some .int) { frames := 0, cells := 0, slots := 0, locals := 0 } [.ref (L (.inl 0))] L (rM Γ L x) (mQi Γ (fun r L1 M1 => r = x.1 13 ∧ L1 = L ∧ M1 = rM Γ L x)) := by
  refine m_start (by decide) (Nat.le_of_ble_eq_true rfl) ?_
  intro p e s m args below meth c A ls X hr hlk hnm hw hS hl
  have hx := X.1.1
  have hb := X.1.2.1
  have hl : lv_has ls 1 [(0, .ref (L (.inl 0)))] := hl
  refine lv_aload_n hx hb dX10_rounds_0 rfl (lv_at hl 0 rfl) ?_
  refine r_get13 X hw dX10_rounds_1 ?_
  exact m_iret X hr hlk hw hS (Nat.zero_le _) (Nat.zero_le _) ⟨by clear hb hx hl hS hw hnm hlk hr X; first | rfl | (simp_all [bI, sS]; done) | (simp_all [bI, sS]; rfl), rfl, rfl⟩ dX10_rounds_4
theorem v_X10_answer : mVm yX10_answer cX10_answer 1 (some .int) 0 := ⟨cd_X10_answer, im_X10_answer, se_X10_answer, ini_X10, by decide, by decide, by decide +kernel⟩
set_option maxHeartbeats 4000000 in
set_option maxRecDepth 100000 in
theorem k_X10_answer (Γ : mG) (l : Launch) (L : mI → Nat) (x : RS)   : mMet Γ l yX10_answer cX10_answer 1 (some .int) { frames := 0, cells := 0, slots := 0, locals := 0 } [.ref (L (.inl 0))] L (rM Γ L x) (mQi Γ (fun r L1 M1 => r = x.1 28 ∧ L1 = L ∧ M1 = rM Γ L x)) := by
  refine m_start (by decide) (Nat.le_of_ble_eq_true rfl) ?_
  intro p e s m args below meth c A ls X hr hlk hnm hw hS hl
  have hx := X.1.1
  have hb := X.1.2.1
  have hl : lv_has ls 1 [(0, .ref (L (.inl 0)))] := hl
  refine lv_aload_n hx hb dX10_answer_0 rfl (lv_at hl 0 rfl) ?_
  refine r_get28 X hw dX10_answer_1 ?_
  exact m_iret X hr hlk hw hS (Nat.zero_le _) (Nat.zero_le _) ⟨by clear hb hx hl hS hw hnm hlk hr X; first | rfl | (simp_all [bI, sS]; done) | (simp_all [bI, sS]; rfl), rfl, rfl⟩ dX10_answer_4
theorem v_X10_method : mVm yX10_method cX10_method 3 (some .int) 1 := ⟨cd_X10_method, im_X10_method, se_X10_method, ini_X10, by decide, by decide, by decide +kernel⟩
set_option maxHeartbeats 4000000 in
set_option maxRecDepth 100000 in
theorem k_X10_method (Γ : mG) (l : Launch) (L : mI → Nat) (x : RS) (a : Int32) (n : Nat) (hn : x.1 0 = nI n) (h8 : n ≤ 8) : mMet Γ l yX10_method cX10_method 3 (some .int) { frames := 1, cells := 0, slots := 0, locals := 25 } [.ref (L (.inl 0)), .int a] L (rM Γ L x) (mQi Γ (fun r L1 M1 => r = (r_method x n a).1 ∧ L1 = L ∧ M1 = rM Γ L (r_method x n a).2)) := by
  refine m_start (by decide) (Nat.le_of_ble_eq_true rfl) ?_
  intro p e s m args below meth c A ls X hr hlk hnm hw hS hl
  have hx := X.1.1
  have hb := X.1.2.1
  have hl : lv_has ls 3 [(0, .ref (L (.inl 0))), (1, .int a)] := hl
  have KL : ∀ (u t : Nat) (j : Int32) (H : Heap) (locs : List Loc) (ls : Array Slot), t + u = 40 → j = nI t → r_isIn a.toInt64 0 4 = true → ¬ n = 8 → mW Γ.1 vwCl A L (rM Γ L (sAs (sA x 1 n a) 7 (fmA (x.2.1 7) (40 * n) (-1) t))) H → va_S A s.heap H locs → lv_has ls 3 [(2, .int j), (0, .ref (L (.inl 0))), (1, .int a)] → W p l e { frames := 1, cells := 0, slots := 0, locals := 25 } s m args below meth c H locs 0 0 (MQ below (mQi Γ (fun r L1 M1 => r = (r_method x n a).1 ∧ L1 = L ∧ M1 = rM Γ L (r_method x n a).2) A) args s 0 0 A) (F0 m 38 ls []) := by
    intro u
    induction u with
    | zero =>
      intro t j H locs ls ht hj hin h8n hw hS hl
      refine lv_iload_n hx hb dX10_method_38 rfl (lv_at hl 0 rfl) ?_
      refine lv_bipush (v := 40) hx hb dX10_method_39 (by decide) ?_
      refine lv_icmp_ge (tgt := 65) hx hb dX10_method_41 (by decide) (fun c_1 => ?_) (fun c_1 => ?_)
      · skip
        have c_1n : t ≥ 40 := ngeT (a := t) (b := 40) hj rfl (by omega) (by omega) c_1
        have c_1m : ¬ t < 40 := by omega
        refine lv_aload_n hx hb dX10_method_65 rfl (lv_at hl 1 rfl) ?_
        refine lv_dup hx hb dX10_method_66 rfl ?_
        refine r_get0 X hw dX10_method_67 ?_
        refine lv_iconst (v := 1) hx hb dX10_method_70 (by decide) ?_
        refine lv_iadd hx hb dX10_method_71 ?_
        refine lv_topi (fun v_2 ev_2 => ?_)
        obtain rfl : v_2 = nI (n + 1) := ev_2.trans (nadd (a := n) (b := 1) hn rfl)
        clear ev_2
        refine r_put0 X hw hS dX10_method_72 (fun H locs hw hS => ?_)
        refine lv_aload_n hx hb dX10_method_75 rfl (lv_at hl 1 rfl) ?_
        refine r_get0 X hw dX10_method_76 ?_
        refine lv_iconst (v := 1) hx hb dX10_method_79 (by decide) ?_
        refine lv_isub hx hb dX10_method_80 ?_
        refine lv_topi (fun v_3 ev_3 => ?_)
        obtain rfl : v_3 = nI ((n + 1) - 1) := ev_3.trans (nsub (a := n + 1) (b := 1) (by omega) rfl rfl)
        clear ev_3
        exact m_iret X hr hlk hw hS (Nat.zero_le _) (Nat.zero_le _) ⟨by clear hb hx hl hS hw hnm hlk hr X; first | exact absurd ht (by omega) | (have ht40 : t = 40 := (by omega); subst ht40; simp only [r_method, if_pos hin, if_neg h8n]; rfl) | (simp only [r_method, if_pos ‹r_isIn a.toInt64 0 4 = true›, if_neg ‹¬ n = 8›]; first | rfl | (show nI n + 1 - 1 = nI n; rw [show (1 : Int32) = nI 1 from rfl, nI_add, pk_sub (by omega)]; rfl) | (have ht40 : t = 40 := (by omega); subst ht40; rfl)) | rfl | (simp_all [bI, r_method]; done) | (simp_all [bI, r_method]; rfl), rfl, by clear hb hx hl hS hw hnm hlk hr X; first | exact absurd ht (by omega) | (have ht40 : t = 40 := (by omega); subst ht40; simp only [r_method, if_pos hin, if_neg h8n]; rfl) | (simp only [r_method, if_pos ‹r_isIn a.toInt64 0 4 = true›, if_neg ‹¬ n = 8›]; first | rfl | (show nI n + 1 - 1 = nI n; rw [show (1 : Int32) = nI 1 from rfl, nI_add, pk_sub (by omega)]; rfl) | (have ht40 : t = 40 := (by omega); subst ht40; rfl)) | rfl | (simp_all [bI, r_method]; done) | (simp_all [bI, r_method]; rfl)⟩ dX10_method_81
      · skip
        have c_1n : ¬ t ≥ 40 := ngeF (a := t) (b := 40) hj rfl (by omega) (by omega) c_1
        have c_1m : t < 40 := by omega
        refine lv_aload_n hx hb dX10_method_44 rfl (lv_at hl 1 rfl) ?_
        refine r_get7 X hw dX10_method_45 ?_
        refine lv_bipush (v := 40) hx hb dX10_method_48 (by decide) ?_
        refine lv_aload_n hx hb dX10_method_50 rfl (lv_at hl 1 rfl) ?_
        refine r_get0 X hw dX10_method_51 ?_
        refine lv_imul hx hb dX10_method_54 ?_
        refine lv_iload_n hx hb dX10_method_55 rfl (lv_at hl 0 rfl) ?_
        refine lv_iadd hx hb dX10_method_56 ?_
        refine lv_iconst (v := (-1)) hx hb dX10_method_57 (by decide) ?_
        refine r_ast7N X hw hS (nadd (a := 40 * n) (b := t) (nmul (a := 40) (b := n) rfl hn) hj) (by omega) dX10_method_58 (fun H locs hw hS => ?_)
        refine lv_iinc (v := j + 1) (lv' := [(2, .int (j + 1)), (0, .ref (L (.inl 0))), (1, .int a)]) hx hb dX10_method_59 hl (k := 0) rfl rfl (by decide) rfl (fun ls hl => ?_)
        refine lv_goto (tgt := 38) hx hb dX10_method_62 (by decide) ?_
        exact absurd ht (by omega)
    | succ u ih =>
      intro t j H locs ls ht hj hin h8n hw hS hl
      refine lv_iload_n hx hb dX10_method_38 rfl (lv_at hl 0 rfl) ?_
      refine lv_bipush (v := 40) hx hb dX10_method_39 (by decide) ?_
      refine lv_icmp_ge (tgt := 65) hx hb dX10_method_41 (by decide) (fun c_4 => ?_) (fun c_4 => ?_)
      · skip
        have c_4n : t ≥ 40 := ngeT (a := t) (b := 40) hj rfl (by omega) (by omega) c_4
        have c_4m : ¬ t < 40 := by omega
        refine lv_aload_n hx hb dX10_method_65 rfl (lv_at hl 1 rfl) ?_
        refine lv_dup hx hb dX10_method_66 rfl ?_
        refine r_get0 X hw dX10_method_67 ?_
        refine lv_iconst (v := 1) hx hb dX10_method_70 (by decide) ?_
        refine lv_iadd hx hb dX10_method_71 ?_
        refine lv_topi (fun v_5 ev_5 => ?_)
        obtain rfl : v_5 = nI (n + 1) := ev_5.trans (nadd (a := n) (b := 1) hn rfl)
        clear ev_5
        refine r_put0 X hw hS dX10_method_72 (fun H locs hw hS => ?_)
        refine lv_aload_n hx hb dX10_method_75 rfl (lv_at hl 1 rfl) ?_
        refine r_get0 X hw dX10_method_76 ?_
        refine lv_iconst (v := 1) hx hb dX10_method_79 (by decide) ?_
        refine lv_isub hx hb dX10_method_80 ?_
        refine lv_topi (fun v_6 ev_6 => ?_)
        obtain rfl : v_6 = nI ((n + 1) - 1) := ev_6.trans (nsub (a := n + 1) (b := 1) (by omega) rfl rfl)
        clear ev_6
        exact m_iret X hr hlk hw hS (Nat.zero_le _) (Nat.zero_le _) ⟨by clear hb hx hl hS hw hnm hlk hr X; first | exact absurd ht (by omega) | (have ht40 : t = 40 := (by omega); subst ht40; simp only [r_method, if_pos hin, if_neg h8n]; rfl) | (simp only [r_method, if_pos ‹r_isIn a.toInt64 0 4 = true›, if_neg ‹¬ n = 8›]; first | rfl | (show nI n + 1 - 1 = nI n; rw [show (1 : Int32) = nI 1 from rfl, nI_add, pk_sub (by omega)]; rfl) | (have ht40 : t = 40 := (by omega); subst ht40; rfl)) | rfl | (simp_all [bI, r_method]; done) | (simp_all [bI, r_method]; rfl), rfl, by clear hb hx hl hS hw hnm hlk hr X; first | exact absurd ht (by omega) | (have ht40 : t = 40 := (by omega); subst ht40; simp only [r_method, if_pos hin, if_neg h8n]; rfl) | (simp only [r_method, if_pos ‹r_isIn a.toInt64 0 4 = true›, if_neg ‹¬ n = 8›]; first | rfl | (show nI n + 1 - 1 = nI n; rw [show (1 : Int32) = nI 1 from rfl, nI_add, pk_sub (by omega)]; rfl) | (have ht40 : t = 40 := (by omega); subst ht40; rfl)) | rfl | (simp_all [bI, r_method]; done) | (simp_all [bI, r_method]; rfl)⟩ dX10_method_81
      · skip
        have c_4n : ¬ t ≥ 40 := ngeF (a := t) (b := 40) hj rfl (by omega) (by omega) c_4
        have c_4m : t < 40 := by omega
        refine lv_aload_n hx hb dX10_method_44 rfl (lv_at hl 1 rfl) ?_
        refine r_get7 X hw dX10_method_45 ?_
        refine lv_bipush (v := 40) hx hb dX10_method_48 (by decide) ?_
        refine lv_aload_n hx hb dX10_method_50 rfl (lv_at hl 1 rfl) ?_
        refine r_get0 X hw dX10_method_51 ?_
        refine lv_imul hx hb dX10_method_54 ?_
        refine lv_iload_n hx hb dX10_method_55 rfl (lv_at hl 0 rfl) ?_
        refine lv_iadd hx hb dX10_method_56 ?_
        refine lv_iconst (v := (-1)) hx hb dX10_method_57 (by decide) ?_
        refine r_ast7N X hw hS (nadd (a := 40 * n) (b := t) (nmul (a := 40) (b := n) rfl hn) hj) (by omega) dX10_method_58 (fun H locs hw hS => ?_)
        refine lv_iinc (v := j + 1) (lv' := [(2, .int (j + 1)), (0, .ref (L (.inl 0))), (1, .int a)]) hx hb dX10_method_59 hl (k := 0) rfl rfl (by decide) rfl (fun ls hl => ?_)
        refine lv_goto (tgt := 38) hx hb dX10_method_62 (by decide) ?_
        exact ih (t + 1) _ H locs ls (by omega) (nadd (a := t) (b := 1) hj rfl) hin h8n (by rw [← sAs_fm]; exact hw) hS hl
  refine lv_iload_n hx hb dX10_method_0 rfl (lv_at hl 1 rfl) ?_
  refine lv_i2l (v := a.toInt64) hx hb dX10_method_1 rfl ?_
  refine lv_lconst (v := 0) hx hb dX10_method_2 (by decide) ?_
  refine lv_ldc2 (v := (4)) hx hb X.1.2.2.2.1 (X.1.2.2.2.2 _ kl_X10_128) dX10_method_3 ?_
  refine m_calli (m_runS (As := [.long a.toInt64, .long 0, .long (4)]) (rest := []) X (k_X10_isIn Γ l L (rM Γ L x) a.toInt64 0 (4)) s_X10_isIn ml_X10_79 hw hS rfl hl.1 ⟨Nat.le_of_ble_eq_true rfl, Nat.le_of_ble_eq_true rfl⟩ (Nat.le_of_ble_eq_true rfl) ⟨Nat.le_of_ble_eq_true rfl, Nat.le_of_ble_eq_true rfl⟩ dX10_method_6) hS (fun r_8 L1 M1 H locs hp_7 hw hS => ?_)
  obtain ⟨rfl, e1, e2⟩ := hp_7
  rw [e1, e2] at hw; clear e1 e2
  refine lv_if_ne (tgt := 14) hx hb dX10_method_9 (by decide) (fun c_9 => ?_) (fun c_9 => ?_)
  · skip
    have c_9 := bI_t c_9
    refine lv_aload_n hx hb dX10_method_14 rfl (lv_at hl 0 rfl) ?_
    refine r_get0 X hw dX10_method_15 ?_
    refine lv_bipush (v := 8) hx hb dX10_method_18 (by decide) ?_
    refine lv_icmp_ne (tgt := 26) hx hb dX10_method_20 (by decide) (fun c_11 => ?_) (fun c_11 => ?_)
    · skip
      have c_11n : ¬ n = 8 := nneT (a := n) (b := 8) hn rfl (by omega) (by omega) c_11
      refine lv_aload_n hx hb dX10_method_26 rfl (lv_at hl 0 rfl) ?_
      refine r_get1 X hw dX10_method_27 ?_
      refine lv_aload_n hx hb dX10_method_30 rfl (lv_at hl 0 rfl) ?_
      refine r_get0 X hw dX10_method_31 ?_
      refine lv_iload_n hx hb dX10_method_34 rfl (lv_at hl 1 rfl) ?_
      refine r_ast1N X hw hS hn (by omega) dX10_method_35 (fun H locs hw hS => ?_)
      refine lv_iconst (v := 0) hx hb dX10_method_36 (by decide) ?_
      refine lv_istore_n (lv' := [(2, .int 0), (0, .ref (L (.inl 0))), (1, .int a)]) hx hb dX10_method_37 rfl hl (by decide) rfl (fun ls hl => ?_)
      exact KL 40 0 _ _ _ ls rfl rfl (by assumption) (by assumption) (by have e := sAs_0 (sA x 1 n a) 7 (40 * n) (-1); show mW Γ.1 vwCl A L (rM Γ L (sAs (sA x 1 n a) 7 (fmA ((sA x 1 n a).2.1 7) (40 * n) (-1) 0))) _; rw [e]; exact hw) hS hl
    · skip
      have c_11n : n = 8 := nneF (a := n) (b := 8) hn rfl (by omega) (by omega) c_11
      refine lv_bipush (v := (-3)) hx hb dX10_method_23 (by decide) ?_
      exact m_iret X hr hlk hw hS (Nat.zero_le _) (Nat.zero_le _) ⟨by clear KL hb hx hl hS hw hnm hlk hr X; first | exact absurd ht (by omega) | (have ht40 : t = 40 := (by omega); subst ht40; simp only [r_method, if_pos hin, if_neg h8n]; rfl) | (simp only [r_method, if_pos ‹r_isIn a.toInt64 0 4 = true›, if_neg ‹¬ n = 8›]; first | rfl | (show nI n + 1 - 1 = nI n; rw [show (1 : Int32) = nI 1 from rfl, nI_add, pk_sub (by omega)]; rfl) | (have ht40 : t = 40 := (by omega); subst ht40; rfl)) | rfl | (simp_all [bI, r_method]; done) | (simp_all [bI, r_method]; rfl), rfl, by clear KL hb hx hl hS hw hnm hlk hr X; first | exact absurd ht (by omega) | (have ht40 : t = 40 := (by omega); subst ht40; simp only [r_method, if_pos hin, if_neg h8n]; rfl) | (simp only [r_method, if_pos ‹r_isIn a.toInt64 0 4 = true›, if_neg ‹¬ n = 8›]; first | rfl | (show nI n + 1 - 1 = nI n; rw [show (1 : Int32) = nI 1 from rfl, nI_add, pk_sub (by omega)]; rfl) | (have ht40 : t = 40 := (by omega); subst ht40; rfl)) | rfl | (simp_all [bI, r_method]; done) | (simp_all [bI, r_method]; rfl)⟩ dX10_method_25
  · skip
    have c_9 := bI_f c_9
    refine lv_iconst (v := (-1)) hx hb dX10_method_12 (by decide) ?_
    exact m_iret X hr hlk hw hS (Nat.zero_le _) (Nat.zero_le _) ⟨by clear KL hb hx hl hS hw hnm hlk hr X; first | exact absurd ht (by omega) | (have ht40 : t = 40 := (by omega); subst ht40; simp only [r_method, if_pos hin, if_neg h8n]; rfl) | (simp only [r_method, if_pos ‹r_isIn a.toInt64 0 4 = true›, if_neg ‹¬ n = 8›]; first | rfl | (show nI n + 1 - 1 = nI n; rw [show (1 : Int32) = nI 1 from rfl, nI_add, pk_sub (by omega)]; rfl) | (have ht40 : t = 40 := (by omega); subst ht40; rfl)) | rfl | (simp_all [bI, r_method]; done) | (simp_all [bI, r_method]; rfl), rfl, by clear KL hb hx hl hS hw hnm hlk hr X; first | exact absurd ht (by omega) | (have ht40 : t = 40 := (by omega); subst ht40; simp only [r_method, if_pos hin, if_neg h8n]; rfl) | (simp only [r_method, if_pos ‹r_isIn a.toInt64 0 4 = true›, if_neg ‹¬ n = 8›]; first | rfl | (show nI n + 1 - 1 = nI n; rw [show (1 : Int32) = nI 1 from rfl, nI_add, pk_sub (by omega)]; rfl) | (have ht40 : t = 40 := (by omega); subst ht40; rfl)) | rfl | (simp_all [bI, r_method]; done) | (simp_all [bI, r_method]; rfl)⟩ dX10_method_13
end
section
/-! THE CLASS'S WORLD: names of family 0; what a step leaves as it was -/
abbrev nm (a b : Nat) : mI := .inr (0, a, b)
/-- names: single ones, and whole rows of the family -/
def inN (ns : List (Nat × Nat)) (rows : List Nat) (j : mI) : Bool := match j with
  | .inr (0, a, b) => rows.contains a || ns.contains (a, b)
  | _ => false
theorem inN_sub {ns ns' : List (Nat × Nat)} {rows rows' : List Nat} {j : mI} (h1 : ns'.all (fun x => rows.contains x.1 || ns.contains x) = true) (h2 : rows'.all (fun a => rows.contains a) = true) (h : inN ns rows j = false) : inN ns' rows' j = false := by
  rcases j with k | ⟨t, a, b⟩
  · rfl
  · cases t with
    | succ t => rfl
    | zero =>
      have h0 : rows.contains a = false ∧ ns.contains (a, b) = false := by simpa [inN] using h
      have g1 : rows'.contains a = false := by
        cases e : rows'.contains a with
        | false => rfl
        | true =>
          have := List.all_eq_true.mp h2 a (List.contains_iff_mem.mp e)
          rw [h0.1] at this; cases this
      have g2 : ns'.contains (a, b) = false := by
        cases e : ns'.contains (a, b) with
        | false => rfl
        | true =>
          have := List.all_eq_true.mp h1 (a, b) (List.contains_iff_mem.mp e)
          simp only [h0.1, h0.2] at this; cases this
      show (rows'.contains a || ns'.contains (a, b)) = false
      rw [g1, g2]; rfl
theorem inN_ne {N : mI → Bool} {i j : mI} (hj : N j = false) (hi : N i = true) : j ≠ i := fun e => by rw [e, hi] at hj; cases hj
/-- one cell is new or changed -/
def mUp (M : mM) (i : mI) (e : va_E) (M1 : mM) : Prop := mget M1 i = some e ∧ (∀ j, j ≠ i → mget M1 j = mget M j) ∧ (0 < M.2.length → 0 < M1.2.length)
theorem mset_len {M : mM} {i : mI} {e : va_E} : (mset M i e).2.length = M.2.length := by
  rcases i with k | ⟨t, a, b⟩
  · rfl
  · show (match M.2[t]? with | some f => M.2.set t (up2 f a b e) | none => M.2).length = _
    cases M.2[t]? with
    | none => rfl
    | some f => exact List.length_set
theorem mUp.set {M : mM} {i : mI} {e0 e : va_E} (h : mget M i = some e0) : mUp M i e (mset M i e) := ⟨mget_self h, fun _ hj => mget_ne hj, fun z => by rw [mset_len]; exact z⟩
theorem mUp.fam {M : mM} {a b : Nat} {e : va_E} (h : 0 < M.2.length) : mUp M (nm a b) e (mset M (nm a b) e) := by
  obtain ⟨f, hf⟩ : ∃ f, M.2[0]? = some f := ⟨_, List.getElem?_eq_getElem h⟩
  exact ⟨mget_selfF hf, fun _ hj => mget_ne hj, fun z => by rw [mset_len]; exact z⟩
/-- since L0, M0: new names N, changed cells C -/
def cP (L0 : mI → Nat) (M0 : mM) (L1 : mI → Nat) (M1 : mM) (N C : mI → Bool) : Prop := (∀ j, N j = false → L1 j = L0 j) ∧ (∀ j, N j = false → C j = false → mget M1 j = mget M0 j) ∧ (0 < M0.2.length → 0 < M1.2.length)
theorem cP.rf {L : mI → Nat} {M : mM} {N C : mI → Bool} : cP L M L M N C := ⟨fun _ _ => rfl, fun _ _ _ => rfl, id⟩
theorem cP.up {L0 L : mI → Nat} {M0 M M1 : mM} {N C : mI → Bool} {i : mI} {e : va_E} (h : cP L0 M0 L M N C) (u : mUp M i e M1) (hi : (N i || C i) = true) : cP L0 M0 L M1 N C := by
  refine ⟨h.1, fun j h1 h2 => ?_, fun z => u.2.2 (h.2.2 z)⟩
  rw [u.2.1 j (fun e => by rw [e] at h1 h2; rw [h1, h2] at hi; cases hi)]
  exact h.2.1 j h1 h2
theorem cP.new {L0 L L1 : mI → Nat} {M0 M M1 : mM} {N C : mI → Bool} {i : mI} {e : va_E} (h : cP L0 M0 L M N C) (u : mUp M i e M1) (hL : ∀ j, j ≠ i → L1 j = L j) (hi : N i = true) : cP L0 M0 L1 M1 N C := by
  refine ⟨fun j h1 => ?_, fun j h1 h2 => ?_, fun z => u.2.2 (h.2.2 z)⟩
  · rw [hL j (inN_ne h1 hi)]; exact h.1 j h1
  · rw [u.2.1 j (inN_ne h1 hi)]; exact h.2.1 j h1 h2
theorem cP.call {L0 L L1 : mI → Nat} {M0 M M1 : mM} {N C N' C' : mI → Bool} (h : cP L0 M0 L M N C) (u : cP L M L1 M1 N' C') (hN : ∀ j, N j = false → N' j = false) (hC : ∀ j, N j = false → C j = false → C' j = false) : cP L0 M0 L1 M1 N C :=
  ⟨fun j h1 => (u.1 j (hN j h1)).trans (h.1 j h1), fun j h1 h2 => (u.2.1 j (hN j h1) (hC j h1 h2)).trans (h.2.1 j h1 h2), fun z => u.2.2 (h.2.2 z)⟩
section CI
variable {p : Program} {l : Launch} {e : Env} {R : Room} {s : State} {m : MethodId} {args : Array Value} {below : List Frame} {meth : Method} {c : Code} {H : Heap} {locs : List Loc} {cells slots : Nat} {Q : State → Prop}
variable {cc : ByteArray} {pc nL : Nat} {ls : Array Slot} {rest : List Value} {Γ : mG} {A : Nat → Prop} {L : mI → Nat} {M : mM} {own : String} {i : mI} {r : Nat}
theorem c_get {C ref : String} {T : u_T} {N ci index : Nat} {fs : List Value} {v : Value} (X : mX Γ p m c cc nL s args own A) (hw : mW Γ.1 vwCl A L M H) (hr : L i = r) (hi : mget M i = some (.inr (ci, fs))) (hc : vwCl[ci]? = some (C, T, N)) (hin : ∀ w ∈ u_ws C T N, w ∈ gw) (k : Nat) (hk : k < N) (hlink : Cond.fieldLink own index ref (T k).2.1 (T k).2.2.1 ∈ gw) (hself : (T k).1 = ref) (hv : fs[k]? = some v) (hdg : decode cc pc = .ok (.getfield index, 3))
    (kk : W p l e R s m args below meth c H locs cells slots Q (F0 m (pc + 3) ls (v :: rest))) : W p l e R s m args below meth c H locs cells slots Q (F0 m pc ls (.ref r :: rest)) := by
  subst hr
  exact m_get X hw hi hc hin k hk hlink hself hv hdg kk
theorem c_put {C ref : String} {T : u_T} {N ci index : Nat} {fs fs1 : List Value} {v : Value} {ty : FieldType} (X : mX Γ p m c cc nL s args own A) (hw : mW Γ.1 vwCl A L M H) (hS : va_S A s.heap H locs) (hr : L i = r) (hi : mget M i = some (.inr (ci, fs))) (hc : vwCl[ci]? = some (C, T, N)) (hin : ∀ w ∈ u_ws C T N, w ∈ gw) (ty0 : Nat → FieldType) (hty : ∀ k, k < N → parseFieldDescriptor (T k).2.2.1 = some (ty0 k)) (hnm : ∀ a, a < N → ∀ b, b < N → a ≠ b → (T a).2.1 ≠ (T b).2.1) (k : Nat) (hk : k < N) (hlink : Cond.fieldLink own index ref (T k).2.1 (T k).2.2.1 ∈ gw) (hself : (T k).1 = ref) (hfin : (T k).2.2.2 = false) (hd : parseFieldDescriptor (T k).2.2.1 = some ty) (hn : narrow ty v = v) (hfit : fits ty v = true) (hl : k < fs.length) (hfs : fs.set k v = fs1) (hdg : decode cc pc = .ok (.putfield index, 3))
    (kk : ∀ (M1 : mM) (H1 : Heap) (locs1 : List Loc), mUp M i (.inr (ci, fs1)) M1 → mW Γ.1 vwCl A L M1 H1 → va_S A s.heap H1 locs1 → W p l e R s m args below meth c H1 locs1 cells slots Q (F0 m (pc + 3) ls rest)) : W p l e R s m args below meth c H locs cells slots Q (F0 m pc ls (v :: .ref r :: rest)) := by
  subst hr hfs
  exact m_put X hw hS hi hc hin ty0 hty hnm k hk hlink hself hfin hd hn hfit hl hdg (fun H1 locs1 h1 h2 => kk _ H1 locs1 (mUp.set hi) h1 h2)
theorem c_putF {C ref : String} {T : u_T} {N ci index : Nat} {fs fs1 : List Value} {v : Value} {ty : FieldType} (X : mX Γ p m c cc nL s args own A) (hw : mW Γ.1 vwCl A L M H) (hS : va_S A s.heap H locs) (hr : L i = r) (hi : mget M i = some (.inr (ci, fs))) (hc : vwCl[ci]? = some (C, T, N)) (hin : ∀ w ∈ u_ws C T N, w ∈ gw) (ty0 : Nat → FieldType) (hty : ∀ k, k < N → parseFieldDescriptor (T k).2.2.1 = some (ty0 k)) (hnm : ∀ a, a < N → ∀ b, b < N → a ≠ b → (T a).2.1 ≠ (T b).2.1) (k : Nat) (hk : k < N) (hlink : Cond.fieldLink own index ref (T k).2.1 (T k).2.2.1 ∈ gw) (hself : (T k).1 = ref) (hfin : (T k).2.2.2 = true) (hinit : meth.name = "<init>") (hdecl : (T k).1 = own) (hd : parseFieldDescriptor (T k).2.2.1 = some ty) (hn : narrow ty v = v) (hfit : fits ty v = true) (hl : k < fs.length) (hfs : fs.set k v = fs1) (hdg : decode cc pc = .ok (.putfield index, 3))
    (kk : ∀ (M1 : mM) (H1 : Heap) (locs1 : List Loc), mUp M i (.inr (ci, fs1)) M1 → mW Γ.1 vwCl A L M1 H1 → va_S A s.heap H1 locs1 → W p l e R s m args below meth c H1 locs1 cells slots Q (F0 m (pc + 3) ls rest)) : W p l e R s m args below meth c H locs cells slots Q (F0 m pc ls (v :: .ref r :: rest)) := by
  subst hr hfs
  exact m_putF X hw hS hi hc hin ty0 hty hnm k hk hlink hself hfin hinit hdecl hd hn hfit hl hdg (fun H1 locs1 h1 h2 => kk _ H1 locs1 (mUp.set hi) h1 h2)
theorem c_new {C : String} {T : u_T} {N ci index : Nat} {fs : List Value} (X : mX Γ p m c cc nL s args own A) (hw : mW Γ.1 vwCl A L M H) (hS : va_S A s.heap H locs) (hM : 0 < M.2.length) (a b : Nat) (hc : vwCl[ci]? = some (C, T, N)) (hin : ∀ w ∈ u_ws C T N, w ∈ gw) (ty : Nat → FieldType) (hty : ∀ k, k < N → parseFieldDescriptor (T k).2.2.1 = some (ty k)) (hcl : Cond.classLink own index C ∈ gw) (hins : Cond.instantiable C N ∈ gw) (hini : Cond.initialized C ∈ gw) (hfs : ∀ j, j < N → defaultValue (ty j) = vp_V fs j) (hcells : cells + 1 ≤ R.cells) (hslots : slots + N ≤ R.slots) (hdg : decode cc pc = .ok (.new index, 3))
    (kk : ∀ (q : Nat) (L1 : mI → Nat) (M1 : mM) (H1 : Heap), L1 (nm a b) = q → (∀ j, j ≠ nm a b → L1 j = L j) → mUp M (nm a b) (.inr (ci, fs)) M1 → mW Γ.1 vwCl A L1 M1 H1 → va_S A s.heap H1 locs → W p l e R s m args below meth c H1 locs (cells + 1) (slots + N) Q (F0 m (pc + 3) ls (.ref q :: rest))) : W p l e R s m args below meth c H locs cells slots Q (F0 m pc ls rest) := by
  have hu : mUp M (nm a b) (.inr (ci, fs)) (mset M (nm a b) (.inr (ci, fs))) := mUp.fam hM
  exact m_new X hw hS (nm a b) hc hin ty hty hcl hins hini hfs hu.1 hu.2.1 hcells hslots hdg (fun q H1 h1 h2 => kk q _ _ H1 updI_self (fun j hj => updI_ne hj) hu h1 h2)
theorem c_newi {N' : Nat} {n : Int32} (X : mX Γ p m c cc nL s args own A) (hw : mW Γ.1 vwCl A L M H) (hS : va_S A s.heap H locs) (hM : 0 < M.2.length) (a b : Nat) (hn : ¬ n < 0) (hN : n.toNatClampNeg = N') (hbytes : N' * 4 ≤ 536870912) (hcells : cells + 1 ≤ R.cells) (hslots : slots + N' ≤ R.slots) (hdg : decode cc pc = .ok (.newarray .int, 2))
    (kk : ∀ (q : Nat) (L1 : mI → Nat) (M1 : mM) (H1 : Heap), L1 (nm a b) = q → (∀ j, j ≠ nm a b → L1 j = L j) → mUp M (nm a b) (.inl (Γ.2.1 0, N', .inl (fun _ => 0))) M1 → mW Γ.1 vwCl A L1 M1 H1 → va_S A s.heap H1 locs → W p l e R s m args below meth c H1 locs (cells + 1) (slots + N') Q (F0 m (pc + 2) ls (.ref q :: rest))) : W p l e R s m args below meth c H locs cells slots Q (F0 m pc ls (.int n :: rest)) := by
  have hu : mUp M (nm a b) (.inl (Γ.2.1 0, N', .inl (fun _ => 0))) (mset M (nm a b) (.inl (Γ.2.1 0, N', .inl (fun _ => 0)))) := mUp.fam hM
  exact m_newa (ty := .int) (t := 0) X hw hS (nm a b) rfl rfl (fun _ _ h => h) ac_int (fun _ => rfl) hn hN hbytes hu.1 hu.2.1 hcells hslots hdg (fun q H1 h1 h2 => kk q _ _ H1 updI_self (fun j hj => updI_ne hj) hu h1 h2)
theorem c_newl {N' : Nat} {n : Int32} (X : mX Γ p m c cc nL s args own A) (hw : mW Γ.1 vwCl A L M H) (hS : va_S A s.heap H locs) (hM : 0 < M.2.length) (a b : Nat) (hn : ¬ n < 0) (hN : n.toNatClampNeg = N') (hbytes : N' * 8 ≤ 536870912) (hcells : cells + 1 ≤ R.cells) (hslots : slots + N' ≤ R.slots) (hdg : decode cc pc = .ok (.newarray .long, 2))
    (kk : ∀ (q : Nat) (L1 : mI → Nat) (M1 : mM) (H1 : Heap), L1 (nm a b) = q → (∀ j, j ≠ nm a b → L1 j = L j) → mUp M (nm a b) (.inl (Γ.2.1 1, N', .inr (.inl (fun _ => 0)))) M1 → mW Γ.1 vwCl A L1 M1 H1 → va_S A s.heap H1 locs → W p l e R s m args below meth c H1 locs (cells + 1) (slots + N') Q (F0 m (pc + 2) ls (.ref q :: rest))) : W p l e R s m args below meth c H locs cells slots Q (F0 m pc ls (.int n :: rest)) := by
  have hu : mUp M (nm a b) (.inl (Γ.2.1 1, N', .inr (.inl (fun _ => 0)))) (mset M (nm a b) (.inl (Γ.2.1 1, N', .inr (.inl (fun _ => 0))))) := mUp.fam hM
  exact m_newa (ty := .long) (t := 1) X hw hS (nm a b) rfl rfl (fun _ _ h => h) ac_long (fun _ => rfl) hn hN hbytes hu.1 hu.2.1 hcells hslots hdg (fun q H1 h1 h2 => kk q _ _ H1 updI_self (fun j hj => updI_ne hj) hu h1 h2)
theorem c_newz {N' : Nat} {n : Int32} (X : mX Γ p m c cc nL s args own A) (hw : mW Γ.1 vwCl A L M H) (hS : va_S A s.heap H locs) (hM : 0 < M.2.length) (a b : Nat) (hn : ¬ n < 0) (hN : n.toNatClampNeg = N') (hbytes : N' * 1 ≤ 536870912) (hcells : cells + 1 ≤ R.cells) (hslots : slots + N' ≤ R.slots) (hdg : decode cc pc = .ok (.newarray .boolean, 2))
    (kk : ∀ (q : Nat) (L1 : mI → Nat) (M1 : mM) (H1 : Heap), L1 (nm a b) = q → (∀ j, j ≠ nm a b → L1 j = L j) → mUp M (nm a b) (.inl (Γ.2.1 2, N', .inl (fun _ => 0))) M1 → mW Γ.1 vwCl A L1 M1 H1 → va_S A s.heap H1 locs → W p l e R s m args below meth c H1 locs (cells + 1) (slots + N') Q (F0 m (pc + 2) ls (.ref q :: rest))) : W p l e R s m args below meth c H locs cells slots Q (F0 m pc ls (.int n :: rest)) := by
  have hu : mUp M (nm a b) (.inl (Γ.2.1 2, N', .inl (fun _ => 0))) (mset M (nm a b) (.inl (Γ.2.1 2, N', .inl (fun _ => 0)))) := mUp.fam hM
  exact m_newa (ty := .boolean) (t := 2) X hw hS (nm a b) rfl rfl (fun _ _ h => h) ac_boolean (fun _ => rfl) hn hN hbytes hu.1 hu.2.1 hcells hslots hdg (fun q H1 h1 h2 => kk q _ _ H1 updI_self (fun j hj => updI_ne hj) hu h1 h2)
theorem c_newq {C : String} {index t N' : Nat} {n : Int32} (X : mX Γ p m c cc nL s args own A) (hw : mW Γ.1 vwCl A L M H) (hS : va_S A s.heap H locs) (hM : 0 < M.2.length) (a b : Nat) (ht : (mTy Γ)[t]? = some (Γ.2.1 t, .object C)) (hcl : Cond.classLink own index C ∈ gw) (ho : va_AO C s) (hn : ¬ n < 0) (hN : n.toNatClampNeg = N') (hbytes : N' * 4 ≤ 536870912) (hcells : cells + 1 ≤ R.cells) (hslots : slots + N' ≤ R.slots) (hdg : decode cc pc = .ok (.anewarray index, 3))
    (kk : ∀ (q : Nat) (L1 : mI → Nat) (M1 : mM) (H1 : Heap), L1 (nm a b) = q → (∀ j, j ≠ nm a b → L1 j = L j) → mUp M (nm a b) (.inl (Γ.2.1 t, N', .inr (.inr (.inr (.inr (fun _ => none)))))) M1 → mW Γ.1 vwCl A L1 M1 H1 → va_S A s.heap H1 locs → W p l e R s m args below meth c H1 locs (cells + 1) (slots + N') Q (F0 m (pc + 3) ls (.ref q :: rest))) : W p l e R s m args below meth c H locs cells slots Q (F0 m pc ls (.int n :: rest)) := by
  have hu : mUp M (nm a b) (.inl (Γ.2.1 t, N', .inr (.inr (.inr (.inr (fun _ => none)))))) (mset M (nm a b) (.inl (Γ.2.1 t, N', .inr (.inr (.inr (.inr (fun _ => none))))))) := mUp.fam hM
  exact m_newq X hw hS (nm a b) ht hcl ho hn hN hbytes hu.1 hu.2.1 hcells hslots hdg (fun q H1 h1 h2 => kk q _ _ H1 updI_self (fun j hj => updI_ne hj) hu h1 h2)
theorem c_aast {n t ci : Nat} {j : mI} {rj : Nat} {q : vw_C} {f : Nat → Option Nat} {fs : List Value} {x : Int32} (X : mX Γ p m c cc nL s args own A) (hw : mW Γ.1 vwCl A L M H) (hS : va_S A s.heap H locs) (hr : L i = r) (hrj : L j = rj) (ht : (mTy Γ)[t]? = some (Γ.2.1 t, .object q.1)) (hi : mget M i = some (.inl (Γ.2.1 t, n, .inr (.inr (.inr (.inr f)))))) (hj : mget M j = some (.inr (ci, fs))) (hc : vwCl[ci]? = some q) (hin : vp_in x n) (hdg : decode cc pc = .ok (.aastore, 1))
    (kk : ∀ (M1 : mM) (H1 : Heap) (locs1 : List Loc), mUp M i (.inl (Γ.2.1 t, n, .inr (.inr (.inr (.inr (va_up f x.toNatClampNeg (some rj))))))) M1 → mW Γ.1 vwCl A L M1 H1 → va_S A s.heap H1 locs1 → W p l e R s m args below meth c H1 locs1 cells slots Q (F0 m (pc + 1) ls rest)) : W p l e R s m args below meth c H locs cells slots Q (F0 m pc ls (.ref rj :: .int x :: .ref r :: rest)) := by
  subst hr hrj
  exact m_aast X hw hS ht hi hj hc hin hdg (fun H1 locs1 h1 h2 => kk _ H1 locs1 (mUp.set hi) h1 h2)
theorem c_iast {n : Nat} {f : Nat → Int32} {x v : Int32} (X : mX Γ p m c cc nL s args own A) (hw : mW Γ.1 vwCl A L M H) (hS : va_S A s.heap H locs) (hr : L i = r) (hi : mget M i = some (.inl (Γ.2.1 0, n, .inl f))) (hin : vp_in x n) (hdg : decode cc pc = .ok (.iastore, 1))
    (kk : ∀ (M1 : mM) (H1 : Heap) (locs1 : List Loc), mUp M i (.inl (Γ.2.1 0, n, .inl (upd f x.toNatClampNeg v))) M1 → mW Γ.1 vwCl A L M1 H1 → va_S A s.heap H1 locs1 → W p l e R s m args below meth c H1 locs1 cells slots Q (F0 m (pc + 1) ls rest)) : W p l e R s m args below meth c H locs cells slots Q (F0 m pc ls (.int v :: .int x :: .ref r :: rest)) := by
  subst hr
  exact m_iast X hw hS hi hin hdg (fun H1 locs1 h1 h2 => kk _ H1 locs1 (mUp.set hi) h1 h2)
theorem c_objInit {index a : Nat} (X : mX Γ p m c cc nL s args own A) (hl : Cond.methodLink own index objectInit ∈ gw) (hsz : ls.size = nL) (hdg : decode cc pc = .ok (.invokespecial index, 3)) (hf : 1 ≤ R.frames) (hlo : (rest.map fun v => v.category).sum + 12 ≤ R.locals)
    (kk : W p l e R s m args below meth c H locs cells slots Q (F0 m (pc + 3) ls rest)) : W p l e R s m args below meth c H locs cells slots Q (F0 m pc ls (.ref a :: rest)) :=
  W.objInit X.1.1 X.1.2.1 X.1.2.2.2.1 (X.1.2.2.2.2 _ hl) (X.1.2.2.2.2 _ im_objectInit) (X.1.2.2.2.2 _ cd_objectInit) rfl (by rw [X.1.2.2.1]; exact hsz) rfl hdg hf (by show 2 * 0 + (rest.map fun v => v.category).sum + 12 ≤ R.locals; omega) kk
variable {y : MethodName} {cy : ByteArray} {ny n index : Nat} {ret : Option FieldType} {rm : Room} {As : List Value} {Qp : (Nat → Prop) → Array Value → State → Outcome → State → Prop}
theorem c_runV {ci : Nat} {fs : List Value} {q : vw_C} (X : mX Γ p m c cc nL s args own A) (hM : mMet Γ l y cy ny ret rm (.ref r :: As) L M Qp) (hr : L i = r) (hy : mVm y cy ny ret n) (hl : Cond.methodLink own index y ∈ gw) (hw : mW Γ.1 vwCl A L M H) (hS : va_S A s.heap H locs) (hi : mget M i = some (.inr (ci, fs))) (hc : vwCl[ci]? = some q) (hq : q.1 = y.cls) (hn : As.length = n) (hsz : ls.size = nL) (hrm : rm.frames + 1 ≤ R.frames ∧ 8 + (ny + 11) + rm.locals ≤ R.locals) (hrest : (rest.map fun v => v.category).sum ≤ 8) (hcs : cells + rm.cells ≤ R.cells ∧ slots + rm.slots ≤ R.slots) (hdg : decode cc pc = .ok (.invokevirtual index, 3)) :
    va_Run p l e R s m args below meth c H locs cells slots rm.cells rm.slots (F0 m pc ls (As.reverse ++ .ref r :: rest)) rest (Qp A (Value.ref r :: As).toArray) A := by
  subst hr
  exact m_runV X hM hy hl hw hS hi hc hq hn hsz hrm hrest hcs hdg
end CI
end
