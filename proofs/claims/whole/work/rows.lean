section
-- ===== PART A: goes FIRST, ahead of the names: the tables' words, and 'selects' of the private methods out of them =====
/-- a private method of a class that the tables say can be made, by its rows of tables_1 -/
def lw_okq (q : MethodName × Nat) : Prop := (q.1.cls ≠ "java/lang/invoke/MethodHandle" ∧ q.1.cls ≠ "java/lang/invoke/VarHandle") ∧ Cond.instantiable q.1.cls q.2 ∈ tables_1 ∧ Cond.privateMethod q.1 ∈ tables_1 ∧ Cond.instanceMethod q.1 ∈ tables_1
theorem lw_p0 : lw_okq (⟨"KindJudge$Judging", "forget", "(LKindJudge$Code;)V"⟩, 6) := ⟨⟨by decide +kernel, by decide +kernel⟩, List.mem_of_getElem? (i := 37) (by decide +kernel), List.mem_of_getElem? (i := 332) (by decide +kernel), List.mem_of_getElem? (i := 333) (by decide +kernel)⟩
theorem lw_p1 : lw_okq (⟨"KindJudge$Step", "moves", "(IJ)Z"⟩, 3) := ⟨⟨by decide +kernel, by decide +kernel⟩, List.mem_of_getElem? (i := 62) (by decide +kernel), List.mem_of_getElem? (i := 372) (by decide +kernel), List.mem_of_getElem? (i := 373) (by decide +kernel)⟩
theorem lw_p2 : lw_okq (⟨"KindJudge$Step", "stores", "(I)Z"⟩, 3) := ⟨⟨by decide +kernel, by decide +kernel⟩, List.mem_of_getElem? (i := 62) (by decide +kernel), List.mem_of_getElem? (i := 389) (by decide +kernel), List.mem_of_getElem? (i := 390) (by decide +kernel)⟩
theorem lw_p3 : lw_okq (⟨"KindJudge$Step", "holdsLong", "(I)Z"⟩, 3) := ⟨⟨by decide +kernel, by decide +kernel⟩, List.mem_of_getElem? (i := 62) (by decide +kernel), List.mem_of_getElem? (i := 406) (by decide +kernel), List.mem_of_getElem? (i := 407) (by decide +kernel)⟩
theorem lw_p4 : lw_okq (⟨"KindJudge$Step", "storesLong", "(I)Z"⟩, 3) := ⟨⟨by decide +kernel, by decide +kernel⟩, List.mem_of_getElem? (i := 62) (by decide +kernel), List.mem_of_getElem? (i := 410) (by decide +kernel), List.mem_of_getElem? (i := 411) (by decide +kernel)⟩
theorem lw_p5 : lw_okq (⟨"KindJudge$Step", "reckons", "(IJ)Z"⟩, 3) := ⟨⟨by decide +kernel, by decide +kernel⟩, List.mem_of_getElem? (i := 62) (by decide +kernel), List.mem_of_getElem? (i := 423) (by decide +kernel), List.mem_of_getElem? (i := 424) (by decide +kernel)⟩
theorem lw_p6 : lw_okq (⟨"KindJudge$Step", "begins", "(IJ)Z"⟩, 3) := ⟨⟨by decide +kernel, by decide +kernel⟩, List.mem_of_getElem? (i := 62) (by decide +kernel), List.mem_of_getElem? (i := 432) (by decide +kernel), List.mem_of_getElem? (i := 433) (by decide +kernel)⟩
theorem lw_p7 : lw_okq (⟨"KindJudge$Step", "finishes", "(LKindJudge$Code;J)Z"⟩, 3) := ⟨⟨by decide +kernel, by decide +kernel⟩, List.mem_of_getElem? (i := 62) (by decide +kernel), List.mem_of_getElem? (i := 448) (by decide +kernel), List.mem_of_getElem? (i := 449) (by decide +kernel)⟩
theorem lw_p8 : lw_okq (⟨"KindJudge$Step", "usesArray", "(IJ)Z"⟩, 3) := ⟨⟨by decide +kernel, by decide +kernel⟩, List.mem_of_getElem? (i := 62) (by decide +kernel), List.mem_of_getElem? (i := 453) (by decide +kernel), List.mem_of_getElem? (i := 454) (by decide +kernel)⟩
theorem lw_p9 : lw_okq (⟨"KindJudge$Step", "takes", "(I)Z"⟩, 3) := ⟨⟨by decide +kernel, by decide +kernel⟩, List.mem_of_getElem? (i := 62) (by decide +kernel), List.mem_of_getElem? (i := 463) (by decide +kernel), List.mem_of_getElem? (i := 464) (by decide +kernel)⟩
theorem lw_p10 : lw_okq (⟨"KindJudge$Step", "usesObject", "(IJ)Z"⟩, 3) := ⟨⟨by decide +kernel, by decide +kernel⟩, List.mem_of_getElem? (i := 62) (by decide +kernel), List.mem_of_getElem? (i := 468) (by decide +kernel), List.mem_of_getElem? (i := 469) (by decide +kernel)⟩
theorem lw_p11 : lw_okq (⟨"KindJudge$Step", "turns", "(I)Z"⟩, 3) := ⟨⟨by decide +kernel, by decide +kernel⟩, List.mem_of_getElem? (i := 62) (by decide +kernel), List.mem_of_getElem? (i := 476) (by decide +kernel), List.mem_of_getElem? (i := 477) (by decide +kernel)⟩
theorem lw_p12 : lw_okq (⟨"KindJudge$Step", "calls", "(LKindJudge$Program;LKindJudge$Code;J)Z"⟩, 3) := ⟨⟨by decide +kernel, by decide +kernel⟩, List.mem_of_getElem? (i := 62) (by decide +kernel), List.mem_of_getElem? (i := 480) (by decide +kernel), List.mem_of_getElem? (i := 481) (by decide +kernel)⟩
theorem lw_p13 : lw_okq (⟨"KindJudge$Step", "goesElsewhere", "(LKindJudge$Code;IJ)Z"⟩, 3) := ⟨⟨by decide +kernel, by decide +kernel⟩, List.mem_of_getElem? (i := 62) (by decide +kernel), List.mem_of_getElem? (i := 485) (by decide +kernel), List.mem_of_getElem? (i := 486) (by decide +kernel)⟩
theorem lw_p14 : lw_okq (⟨"KindJudge$Judging", "leadsToFrame", "(LKindJudge$Code;)Z"⟩, 6) := ⟨⟨by decide +kernel, by decide +kernel⟩, List.mem_of_getElem? (i := 37) (by decide +kernel), List.mem_of_getElem? (i := 489) (by decide +kernel), List.mem_of_getElem? (i := 490) (by decide +kernel)⟩
theorem lw_p15 : lw_okq (⟨"KindJudge$Judging", "handlersFit", "(LKindJudge$Code;I)Z"⟩, 6) := ⟨⟨by decide +kernel, by decide +kernel⟩, List.mem_of_getElem? (i := 37) (by decide +kernel), List.mem_of_getElem? (i := 493) (by decide +kernel), List.mem_of_getElem? (i := 494) (by decide +kernel)⟩
def lw_privs_1 : List (MethodName × Nat) := [(⟨"KindJudge$Judging", "forget", "(LKindJudge$Code;)V"⟩, 6), (⟨"KindJudge$Step", "moves", "(IJ)Z"⟩, 3), (⟨"KindJudge$Step", "stores", "(I)Z"⟩, 3), (⟨"KindJudge$Step", "holdsLong", "(I)Z"⟩, 3), (⟨"KindJudge$Step", "storesLong", "(I)Z"⟩, 3), (⟨"KindJudge$Step", "reckons", "(IJ)Z"⟩, 3), (⟨"KindJudge$Step", "begins", "(IJ)Z"⟩, 3), (⟨"KindJudge$Step", "finishes", "(LKindJudge$Code;J)Z"⟩, 3), (⟨"KindJudge$Step", "usesArray", "(IJ)Z"⟩, 3), (⟨"KindJudge$Step", "takes", "(I)Z"⟩, 3), (⟨"KindJudge$Step", "usesObject", "(IJ)Z"⟩, 3), (⟨"KindJudge$Step", "turns", "(I)Z"⟩, 3), (⟨"KindJudge$Step", "calls", "(LKindJudge$Program;LKindJudge$Code;J)Z"⟩, 3), (⟨"KindJudge$Step", "goesElsewhere", "(LKindJudge$Code;IJ)Z"⟩, 3), (⟨"KindJudge$Judging", "leadsToFrame", "(LKindJudge$Code;)Z"⟩, 6), (⟨"KindJudge$Judging", "handlersFit", "(LKindJudge$Code;I)Z"⟩, 6)]
theorem lw_r1 : ∀ q ∈ lw_privs_1, lw_okq q := List.forall_mem_cons.mpr ⟨lw_p0, List.forall_mem_cons.mpr ⟨lw_p1, List.forall_mem_cons.mpr ⟨lw_p2, List.forall_mem_cons.mpr ⟨lw_p3, List.forall_mem_cons.mpr ⟨lw_p4, List.forall_mem_cons.mpr ⟨lw_p5, List.forall_mem_cons.mpr ⟨lw_p6, List.forall_mem_cons.mpr ⟨lw_p7, List.forall_mem_cons.mpr ⟨lw_p8, List.forall_mem_cons.mpr ⟨lw_p9, List.forall_mem_cons.mpr ⟨lw_p10, List.forall_mem_cons.mpr ⟨lw_p11, List.forall_mem_cons.mpr ⟨lw_p12, List.forall_mem_cons.mpr ⟨lw_p13, List.forall_mem_cons.mpr ⟨lw_p14, List.forall_mem_cons.mpr ⟨lw_p15, fun _ h => absurd h List.not_mem_nil⟩⟩⟩⟩⟩⟩⟩⟩⟩⟩⟩⟩⟩⟩⟩⟩
theorem lw_p16 : lw_okq (⟨"KindJudge$Judging", "arrives", "(LKindJudge$Code;ILKindJudge$Places;)Z"⟩, 6) := ⟨⟨by decide +kernel, by decide +kernel⟩, List.mem_of_getElem? (i := 37) (by decide +kernel), List.mem_of_getElem? (i := 515) (by decide +kernel), List.mem_of_getElem? (i := 516) (by decide +kernel)⟩
theorem lw_p17 : lw_okq (⟨"KindJudge$Judging", "handsOn", "(LKindJudge$Program;LKindJudge$Code;I)Z"⟩, 6) := ⟨⟨by decide +kernel, by decide +kernel⟩, List.mem_of_getElem? (i := 37) (by decide +kernel), List.mem_of_getElem? (i := 532) (by decide +kernel), List.mem_of_getElem? (i := 533) (by decide +kernel)⟩
theorem lw_p18 : lw_okq (⟨"KindJudge$Machine", "enter", "(LKindJudge$Code;)V"⟩, 14) := ⟨⟨by decide +kernel, by decide +kernel⟩, List.mem_of_getElem? (i := 103) (by decide +kernel), List.mem_of_getElem? (i := 572) (by decide +kernel), List.mem_of_getElem? (i := 573) (by decide +kernel)⟩
theorem lw_p19 : lw_okq (⟨"KindJudge$Machine", "doNext", "(LKindJudge$Program;)V"⟩, 14) := ⟨⟨by decide +kernel, by decide +kernel⟩, List.mem_of_getElem? (i := 103) (by decide +kernel), List.mem_of_getElem? (i := 584) (by decide +kernel), List.mem_of_getElem? (i := 585) (by decide +kernel)⟩
theorem lw_p20 : lw_okq (⟨"KindJudge$Machine", "does", "(LKindJudge$Program;IJ)I"⟩, 14) := ⟨⟨by decide +kernel, by decide +kernel⟩, List.mem_of_getElem? (i := 103) (by decide +kernel), List.mem_of_getElem? (i := 589) (by decide +kernel), List.mem_of_getElem? (i := 590) (by decide +kernel)⟩
theorem lw_p21 : lw_okq (⟨"KindJudge$Machine", "moves", "(IJ)I"⟩, 14) := ⟨⟨by decide +kernel, by decide +kernel⟩, List.mem_of_getElem? (i := 103) (by decide +kernel), List.mem_of_getElem? (i := 593) (by decide +kernel), List.mem_of_getElem? (i := 594) (by decide +kernel)⟩
theorem lw_p22 : lw_okq (⟨"KindJudge$Machine", "push", "(J)V"⟩, 14) := ⟨⟨by decide +kernel, by decide +kernel⟩, List.mem_of_getElem? (i := 103) (by decide +kernel), List.mem_of_getElem? (i := 597) (by decide +kernel), List.mem_of_getElem? (i := 598) (by decide +kernel)⟩
theorem lw_p23 : lw_okq (⟨"KindJudge$Machine", "pushLong", "(J)V"⟩, 14) := ⟨⟨by decide +kernel, by decide +kernel⟩, List.mem_of_getElem? (i := 103) (by decide +kernel), List.mem_of_getElem? (i := 601) (by decide +kernel), List.mem_of_getElem? (i := 602) (by decide +kernel)⟩
theorem lw_p24 : lw_okq (⟨"KindJudge$Machine", "pop", "()J"⟩, 14) := ⟨⟨by decide +kernel, by decide +kernel⟩, List.mem_of_getElem? (i := 103) (by decide +kernel), List.mem_of_getElem? (i := 606) (by decide +kernel), List.mem_of_getElem? (i := 607) (by decide +kernel)⟩
theorem lw_p25 : lw_okq (⟨"KindJudge$Machine", "popLong", "()J"⟩, 14) := ⟨⟨by decide +kernel, by decide +kernel⟩, List.mem_of_getElem? (i := 103) (by decide +kernel), List.mem_of_getElem? (i := 610) (by decide +kernel), List.mem_of_getElem? (i := 611) (by decide +kernel)⟩
theorem lw_p26 : lw_okq (⟨"KindJudge$Machine", "reckons", "(IJ)I"⟩, 14) := ⟨⟨by decide +kernel, by decide +kernel⟩, List.mem_of_getElem? (i := 103) (by decide +kernel), List.mem_of_getElem? (i := 614) (by decide +kernel), List.mem_of_getElem? (i := 615) (by decide +kernel)⟩
theorem lw_p27 : lw_okq (⟨"KindJudge$Machine", "relatesInts", "(I)I"⟩, 14) := ⟨⟨by decide +kernel, by decide +kernel⟩, List.mem_of_getElem? (i := 103) (by decide +kernel), List.mem_of_getElem? (i := 618) (by decide +kernel), List.mem_of_getElem? (i := 619) (by decide +kernel)⟩
theorem lw_p28 : lw_okq (⟨"KindJudge$Machine", "popInt", "()I"⟩, 14) := ⟨⟨by decide +kernel, by decide +kernel⟩, List.mem_of_getElem? (i := 103) (by decide +kernel), List.mem_of_getElem? (i := 622) (by decide +kernel), List.mem_of_getElem? (i := 623) (by decide +kernel)⟩
theorem lw_p29 : lw_okq (⟨"KindJudge$Machine", "relatesLongs", "(I)I"⟩, 14) := ⟨⟨by decide +kernel, by decide +kernel⟩, List.mem_of_getElem? (i := 103) (by decide +kernel), List.mem_of_getElem? (i := 629) (by decide +kernel), List.mem_of_getElem? (i := 630) (by decide +kernel)⟩
theorem lw_p30 : lw_okq (⟨"KindJudge$Machine", "makes", "(IJ)I"⟩, 14) := ⟨⟨by decide +kernel, by decide +kernel⟩, List.mem_of_getElem? (i := 103) (by decide +kernel), List.mem_of_getElem? (i := 633) (by decide +kernel), List.mem_of_getElem? (i := 634) (by decide +kernel)⟩
theorem lw_p31 : lw_okq (⟨"KindJudge$Machine", "pushNew", "(II)I"⟩, 14) := ⟨⟨by decide +kernel, by decide +kernel⟩, List.mem_of_getElem? (i := 103) (by decide +kernel), List.mem_of_getElem? (i := 637) (by decide +kernel), List.mem_of_getElem? (i := 638) (by decide +kernel)⟩
def lw_privs_2 : List (MethodName × Nat) := [(⟨"KindJudge$Judging", "arrives", "(LKindJudge$Code;ILKindJudge$Places;)Z"⟩, 6), (⟨"KindJudge$Judging", "handsOn", "(LKindJudge$Program;LKindJudge$Code;I)Z"⟩, 6), (⟨"KindJudge$Machine", "enter", "(LKindJudge$Code;)V"⟩, 14), (⟨"KindJudge$Machine", "doNext", "(LKindJudge$Program;)V"⟩, 14), (⟨"KindJudge$Machine", "does", "(LKindJudge$Program;IJ)I"⟩, 14), (⟨"KindJudge$Machine", "moves", "(IJ)I"⟩, 14), (⟨"KindJudge$Machine", "push", "(J)V"⟩, 14), (⟨"KindJudge$Machine", "pushLong", "(J)V"⟩, 14), (⟨"KindJudge$Machine", "pop", "()J"⟩, 14), (⟨"KindJudge$Machine", "popLong", "()J"⟩, 14), (⟨"KindJudge$Machine", "reckons", "(IJ)I"⟩, 14), (⟨"KindJudge$Machine", "relatesInts", "(I)I"⟩, 14), (⟨"KindJudge$Machine", "popInt", "()I"⟩, 14), (⟨"KindJudge$Machine", "relatesLongs", "(I)I"⟩, 14), (⟨"KindJudge$Machine", "makes", "(IJ)I"⟩, 14), (⟨"KindJudge$Machine", "pushNew", "(II)I"⟩, 14)]
theorem lw_r2 : ∀ q ∈ lw_privs_2, lw_okq q := List.forall_mem_cons.mpr ⟨lw_p16, List.forall_mem_cons.mpr ⟨lw_p17, List.forall_mem_cons.mpr ⟨lw_p18, List.forall_mem_cons.mpr ⟨lw_p19, List.forall_mem_cons.mpr ⟨lw_p20, List.forall_mem_cons.mpr ⟨lw_p21, List.forall_mem_cons.mpr ⟨lw_p22, List.forall_mem_cons.mpr ⟨lw_p23, List.forall_mem_cons.mpr ⟨lw_p24, List.forall_mem_cons.mpr ⟨lw_p25, List.forall_mem_cons.mpr ⟨lw_p26, List.forall_mem_cons.mpr ⟨lw_p27, List.forall_mem_cons.mpr ⟨lw_p28, List.forall_mem_cons.mpr ⟨lw_p29, List.forall_mem_cons.mpr ⟨lw_p30, List.forall_mem_cons.mpr ⟨lw_p31, fun _ h => absurd h List.not_mem_nil⟩⟩⟩⟩⟩⟩⟩⟩⟩⟩⟩⟩⟩⟩⟩⟩
theorem lw_p32 : lw_okq (⟨"KindJudge$Machine", "end", "(II)V"⟩, 14) := ⟨⟨by decide +kernel, by decide +kernel⟩, List.mem_of_getElem? (i := 103) (by decide +kernel), List.mem_of_getElem? (i := 645) (by decide +kernel), List.mem_of_getElem? (i := 646) (by decide +kernel)⟩
theorem lw_p33 : lw_okq (⟨"KindJudge$Machine", "usesArray", "(I)I"⟩, 14) := ⟨⟨by decide +kernel, by decide +kernel⟩, List.mem_of_getElem? (i := 103) (by decide +kernel), List.mem_of_getElem? (i := 649) (by decide +kernel), List.mem_of_getElem? (i := 650) (by decide +kernel)⟩
theorem lw_p34 : lw_okq (⟨"KindJudge$Machine", "asks", "(II)I"⟩, 14) := ⟨⟨by decide +kernel, by decide +kernel⟩, List.mem_of_getElem? (i := 103) (by decide +kernel), List.mem_of_getElem? (i := 685) (by decide +kernel), List.mem_of_getElem? (i := 686) (by decide +kernel)⟩
theorem lw_p35 : lw_okq (⟨"KindJudge$Machine", "usesObject", "(I)I"⟩, 14) := ⟨⟨by decide +kernel, by decide +kernel⟩, List.mem_of_getElem? (i := 103) (by decide +kernel), List.mem_of_getElem? (i := 690) (by decide +kernel), List.mem_of_getElem? (i := 691) (by decide +kernel)⟩
theorem lw_p36 : lw_okq (⟨"KindJudge$Machine", "turns", "(I)I"⟩, 14) := ⟨⟨by decide +kernel, by decide +kernel⟩, List.mem_of_getElem? (i := 103) (by decide +kernel), List.mem_of_getElem? (i := 706) (by decide +kernel), List.mem_of_getElem? (i := 707) (by decide +kernel)⟩
theorem lw_p37 : lw_okq (⟨"KindJudge$Machine", "leads", "(LKindJudge$Program;IJ)I"⟩, 14) := ⟨⟨by decide +kernel, by decide +kernel⟩, List.mem_of_getElem? (i := 103) (by decide +kernel), List.mem_of_getElem? (i := 710) (by decide +kernel), List.mem_of_getElem? (i := 711) (by decide +kernel)⟩
theorem lw_p38 : lw_okq (⟨"KindJudge$Machine", "jumpsIf", "(ZJ)I"⟩, 14) := ⟨⟨by decide +kernel, by decide +kernel⟩, List.mem_of_getElem? (i := 103) (by decide +kernel), List.mem_of_getElem? (i := 714) (by decide +kernel), List.mem_of_getElem? (i := 715) (by decide +kernel)⟩
theorem lw_p39 : lw_okq (⟨"KindJudge$Machine", "returns", "(I)I"⟩, 14) := ⟨⟨by decide +kernel, by decide +kernel⟩, List.mem_of_getElem? (i := 103) (by decide +kernel), List.mem_of_getElem? (i := 718) (by decide +kernel), List.mem_of_getElem? (i := 719) (by decide +kernel)⟩
theorem lw_p40 : lw_okq (⟨"KindJudge$Machine", "calls", "(LKindJudge$Code;)I"⟩, 14) := ⟨⟨by decide +kernel, by decide +kernel⟩, List.mem_of_getElem? (i := 103) (by decide +kernel), List.mem_of_getElem? (i := 723) (by decide +kernel), List.mem_of_getElem? (i := 724) (by decide +kernel)⟩
theorem lw_p41 : lw_okq (⟨"KindJudge$Machine", "arises", "(I)V"⟩, 14) := ⟨⟨by decide +kernel, by decide +kernel⟩, List.mem_of_getElem? (i := 103) (by decide +kernel), List.mem_of_getElem? (i := 727) (by decide +kernel), List.mem_of_getElem? (i := 728) (by decide +kernel)⟩
theorem lw_p42 : lw_okq (⟨"KindJudge$Machine", "catches", "(LKindJudge$Code;II)Z"⟩, 14) := ⟨⟨by decide +kernel, by decide +kernel⟩, List.mem_of_getElem? (i := 103) (by decide +kernel), List.mem_of_getElem? (i := 731) (by decide +kernel), List.mem_of_getElem? (i := 732) (by decide +kernel)⟩
theorem lw_p43 : lw_okq (⟨"KindJudgeModel", "isMethod", "(I)Z"⟩, 35) := ⟨⟨by decide +kernel, by decide +kernel⟩, List.mem_of_getElem? (i := 752) (by decide +kernel), List.mem_of_getElem? (i := 914) (by decide +kernel), List.mem_of_getElem? (i := 915) (by decide +kernel)⟩
theorem lw_p44 : lw_okq (⟨"KindJudgeModel", "changed", "(I)V"⟩, 35) := ⟨⟨by decide +kernel, by decide +kernel⟩, List.mem_of_getElem? (i := 752) (by decide +kernel), List.mem_of_getElem? (i := 918) (by decide +kernel), List.mem_of_getElem? (i := 919) (by decide +kernel)⟩
theorem lw_p45 : lw_okq (⟨"KindJudgeModel", "wrongByFrames", "(I)I"⟩, 35) := ⟨⟨by decide +kernel, by decide +kernel⟩, List.mem_of_getElem? (i := 752) (by decide +kernel), List.mem_of_getElem? (i := 942) (by decide +kernel), List.mem_of_getElem? (i := 943) (by decide +kernel)⟩
theorem lw_p46 : lw_okq (⟨"KindJudgeModel", "begins", "(I)V"⟩, 35) := ⟨⟨by decide +kernel, by decide +kernel⟩, List.mem_of_getElem? (i := 752) (by decide +kernel), List.mem_of_getElem? (i := 946) (by decide +kernel), List.mem_of_getElem? (i := 947) (by decide +kernel)⟩
theorem lw_p47 : lw_okq (⟨"KindJudgeModel", "goesToFrame", "(II)Z"⟩, 35) := ⟨⟨by decide +kernel, by decide +kernel⟩, List.mem_of_getElem? (i := 752) (by decide +kernel), List.mem_of_getElem? (i := 950) (by decide +kernel), List.mem_of_getElem? (i := 951) (by decide +kernel)⟩
def lw_privs_3 : List (MethodName × Nat) := [(⟨"KindJudge$Machine", "end", "(II)V"⟩, 14), (⟨"KindJudge$Machine", "usesArray", "(I)I"⟩, 14), (⟨"KindJudge$Machine", "asks", "(II)I"⟩, 14), (⟨"KindJudge$Machine", "usesObject", "(I)I"⟩, 14), (⟨"KindJudge$Machine", "turns", "(I)I"⟩, 14), (⟨"KindJudge$Machine", "leads", "(LKindJudge$Program;IJ)I"⟩, 14), (⟨"KindJudge$Machine", "jumpsIf", "(ZJ)I"⟩, 14), (⟨"KindJudge$Machine", "returns", "(I)I"⟩, 14), (⟨"KindJudge$Machine", "calls", "(LKindJudge$Code;)I"⟩, 14), (⟨"KindJudge$Machine", "arises", "(I)V"⟩, 14), (⟨"KindJudge$Machine", "catches", "(LKindJudge$Code;II)Z"⟩, 14), (⟨"KindJudgeModel", "isMethod", "(I)Z"⟩, 35), (⟨"KindJudgeModel", "changed", "(I)V"⟩, 35), (⟨"KindJudgeModel", "wrongByFrames", "(I)I"⟩, 35), (⟨"KindJudgeModel", "begins", "(I)V"⟩, 35), (⟨"KindJudgeModel", "goesToFrame", "(II)Z"⟩, 35)]
theorem lw_r3 : ∀ q ∈ lw_privs_3, lw_okq q := List.forall_mem_cons.mpr ⟨lw_p32, List.forall_mem_cons.mpr ⟨lw_p33, List.forall_mem_cons.mpr ⟨lw_p34, List.forall_mem_cons.mpr ⟨lw_p35, List.forall_mem_cons.mpr ⟨lw_p36, List.forall_mem_cons.mpr ⟨lw_p37, List.forall_mem_cons.mpr ⟨lw_p38, List.forall_mem_cons.mpr ⟨lw_p39, List.forall_mem_cons.mpr ⟨lw_p40, List.forall_mem_cons.mpr ⟨lw_p41, List.forall_mem_cons.mpr ⟨lw_p42, List.forall_mem_cons.mpr ⟨lw_p43, List.forall_mem_cons.mpr ⟨lw_p44, List.forall_mem_cons.mpr ⟨lw_p45, List.forall_mem_cons.mpr ⟨lw_p46, List.forall_mem_cons.mpr ⟨lw_p47, fun _ h => absurd h List.not_mem_nil⟩⟩⟩⟩⟩⟩⟩⟩⟩⟩⟩⟩⟩⟩⟩⟩
theorem lw_p48 : lw_okq (⟨"KindJudgeModel", "sees", "(I)V"⟩, 35) := ⟨⟨by decide +kernel, by decide +kernel⟩, List.mem_of_getElem? (i := 752) (by decide +kernel), List.mem_of_getElem? (i := 954) (by decide +kernel), List.mem_of_getElem? (i := 955) (by decide +kernel)⟩
theorem lw_p49 : lw_okq (⟨"KindJudgeModel", "handlersFit", "(II)Z"⟩, 35) := ⟨⟨by decide +kernel, by decide +kernel⟩, List.mem_of_getElem? (i := 752) (by decide +kernel), List.mem_of_getElem? (i := 958) (by decide +kernel), List.mem_of_getElem? (i := 959) (by decide +kernel)⟩
theorem lw_p50 : lw_okq (⟨"KindJudgeModel", "does", "(II)Z"⟩, 35) := ⟨⟨by decide +kernel, by decide +kernel⟩, List.mem_of_getElem? (i := 752) (by decide +kernel), List.mem_of_getElem? (i := 962) (by decide +kernel), List.mem_of_getElem? (i := 963) (by decide +kernel)⟩
theorem lw_p51 : lw_okq (⟨"KindJudgeModel", "push", "(I)Z"⟩, 35) := ⟨⟨by decide +kernel, by decide +kernel⟩, List.mem_of_getElem? (i := 752) (by decide +kernel), List.mem_of_getElem? (i := 966) (by decide +kernel), List.mem_of_getElem? (i := 967) (by decide +kernel)⟩
theorem lw_p52 : lw_okq (⟨"KindJudgeModel", "pushLong", "()Z"⟩, 35) := ⟨⟨by decide +kernel, by decide +kernel⟩, List.mem_of_getElem? (i := 752) (by decide +kernel), List.mem_of_getElem? (i := 970) (by decide +kernel), List.mem_of_getElem? (i := 971) (by decide +kernel)⟩
theorem lw_p53 : lw_okq (⟨"KindJudgeModel", "isOneOnTop", "(I)Z"⟩, 35) := ⟨⟨by decide +kernel, by decide +kernel⟩, List.mem_of_getElem? (i := 752) (by decide +kernel), List.mem_of_getElem? (i := 977) (by decide +kernel), List.mem_of_getElem? (i := 978) (by decide +kernel)⟩
theorem lw_p54 : lw_okq (⟨"KindJudgeModel", "local", "(II)V"⟩, 35) := ⟨⟨by decide +kernel, by decide +kernel⟩, List.mem_of_getElem? (i := 752) (by decide +kernel), List.mem_of_getElem? (i := 981) (by decide +kernel), List.mem_of_getElem? (i := 982) (by decide +kernel)⟩
theorem lw_p55 : lw_okq (⟨"KindJudgeModel", "popLong", "()Z"⟩, 35) := ⟨⟨by decide +kernel, by decide +kernel⟩, List.mem_of_getElem? (i := 752) (by decide +kernel), List.mem_of_getElem? (i := 986) (by decide +kernel), List.mem_of_getElem? (i := 987) (by decide +kernel)⟩
theorem lw_p56 : lw_okq (⟨"KindJudgeModel", "pop", "(I)Z"⟩, 35) := ⟨⟨by decide +kernel, by decide +kernel⟩, List.mem_of_getElem? (i := 752) (by decide +kernel), List.mem_of_getElem? (i := 990) (by decide +kernel), List.mem_of_getElem? (i := 991) (by decide +kernel)⟩
theorem lw_p57 : lw_okq (⟨"KindJudgeModel", "isNew", "(IJ)Z"⟩, 35) := ⟨⟨by decide +kernel, by decide +kernel⟩, List.mem_of_getElem? (i := 752) (by decide +kernel), List.mem_of_getElem? (i := 994) (by decide +kernel), List.mem_of_getElem? (i := 995) (by decide +kernel)⟩
theorem lw_p58 : lw_okq (⟨"KindJudgeModel", "isMade", "(IJ)Z"⟩, 35) := ⟨⟨by decide +kernel, by decide +kernel⟩, List.mem_of_getElem? (i := 752) (by decide +kernel), List.mem_of_getElem? (i := 998) (by decide +kernel), List.mem_of_getElem? (i := 999) (by decide +kernel)⟩
theorem lw_p59 : lw_okq (⟨"KindJudgeModel", "doesMore", "(IIIJ)Z"⟩, 35) := ⟨⟨by decide +kernel, by decide +kernel⟩, List.mem_of_getElem? (i := 752) (by decide +kernel), List.mem_of_getElem? (i := 1002) (by decide +kernel), List.mem_of_getElem? (i := 1003) (by decide +kernel)⟩
theorem lw_p60 : lw_okq (⟨"KindJudgeModel", "wrongJoined", "(I)I"⟩, 35) := ⟨⟨by decide +kernel, by decide +kernel⟩, List.mem_of_getElem? (i := 752) (by decide +kernel), List.mem_of_getElem? (i := 1018) (by decide +kernel), List.mem_of_getElem? (i := 1019) (by decide +kernel)⟩
theorem lw_p61 : lw_okq (⟨"KindJudgeModel", "goesOn", "(II)Z"⟩, 35) := ⟨⟨by decide +kernel, by decide +kernel⟩, List.mem_of_getElem? (i := 752) (by decide +kernel), List.mem_of_getElem? (i := 1022) (by decide +kernel), List.mem_of_getElem? (i := 1023) (by decide +kernel)⟩
theorem lw_p62 : lw_okq (⟨"KindJudgeModel", "takes", "(I)V"⟩, 35) := ⟨⟨by decide +kernel, by decide +kernel⟩, List.mem_of_getElem? (i := 752) (by decide +kernel), List.mem_of_getElem? (i := 1026) (by decide +kernel), List.mem_of_getElem? (i := 1027) (by decide +kernel)⟩
theorem lw_p63 : lw_okq (⟨"KindJudgeModel", "comesTo", "(II)Z"⟩, 35) := ⟨⟨by decide +kernel, by decide +kernel⟩, List.mem_of_getElem? (i := 752) (by decide +kernel), List.mem_of_getElem? (i := 1030) (by decide +kernel), List.mem_of_getElem? (i := 1031) (by decide +kernel)⟩
def lw_privs_4 : List (MethodName × Nat) := [(⟨"KindJudgeModel", "sees", "(I)V"⟩, 35), (⟨"KindJudgeModel", "handlersFit", "(II)Z"⟩, 35), (⟨"KindJudgeModel", "does", "(II)Z"⟩, 35), (⟨"KindJudgeModel", "push", "(I)Z"⟩, 35), (⟨"KindJudgeModel", "pushLong", "()Z"⟩, 35), (⟨"KindJudgeModel", "isOneOnTop", "(I)Z"⟩, 35), (⟨"KindJudgeModel", "local", "(II)V"⟩, 35), (⟨"KindJudgeModel", "popLong", "()Z"⟩, 35), (⟨"KindJudgeModel", "pop", "(I)Z"⟩, 35), (⟨"KindJudgeModel", "isNew", "(IJ)Z"⟩, 35), (⟨"KindJudgeModel", "isMade", "(IJ)Z"⟩, 35), (⟨"KindJudgeModel", "doesMore", "(IIIJ)Z"⟩, 35), (⟨"KindJudgeModel", "wrongJoined", "(I)I"⟩, 35), (⟨"KindJudgeModel", "goesOn", "(II)Z"⟩, 35), (⟨"KindJudgeModel", "takes", "(I)V"⟩, 35), (⟨"KindJudgeModel", "comesTo", "(II)Z"⟩, 35)]
theorem lw_r4 : ∀ q ∈ lw_privs_4, lw_okq q := List.forall_mem_cons.mpr ⟨lw_p48, List.forall_mem_cons.mpr ⟨lw_p49, List.forall_mem_cons.mpr ⟨lw_p50, List.forall_mem_cons.mpr ⟨lw_p51, List.forall_mem_cons.mpr ⟨lw_p52, List.forall_mem_cons.mpr ⟨lw_p53, List.forall_mem_cons.mpr ⟨lw_p54, List.forall_mem_cons.mpr ⟨lw_p55, List.forall_mem_cons.mpr ⟨lw_p56, List.forall_mem_cons.mpr ⟨lw_p57, List.forall_mem_cons.mpr ⟨lw_p58, List.forall_mem_cons.mpr ⟨lw_p59, List.forall_mem_cons.mpr ⟨lw_p60, List.forall_mem_cons.mpr ⟨lw_p61, List.forall_mem_cons.mpr ⟨lw_p62, List.forall_mem_cons.mpr ⟨lw_p63, fun _ h => absurd h List.not_mem_nil⟩⟩⟩⟩⟩⟩⟩⟩⟩⟩⟩⟩⟩⟩⟩⟩
theorem lw_p64 : lw_okq (⟨"KindJudgeModel", "ahead", "(I)V"⟩, 35) := ⟨⟨by decide +kernel, by decide +kernel⟩, List.mem_of_getElem? (i := 752) (by decide +kernel), List.mem_of_getElem? (i := 1034) (by decide +kernel), List.mem_of_getElem? (i := 1035) (by decide +kernel)⟩
theorem lw_p65 : lw_okq (⟨"KindJudgeModel", "areRight", "(I)Z"⟩, 35) := ⟨⟨by decide +kernel, by decide +kernel⟩, List.mem_of_getElem? (i := 752) (by decide +kernel), List.mem_of_getElem? (i := 1051) (by decide +kernel), List.mem_of_getElem? (i := 1052) (by decide +kernel)⟩
theorem lw_p66 : lw_okq (⟨"KindJudgeModel", "works", "()I"⟩, 35) := ⟨⟨by decide +kernel, by decide +kernel⟩, List.mem_of_getElem? (i := 752) (by decide +kernel), List.mem_of_getElem? (i := 1055) (by decide +kernel), List.mem_of_getElem? (i := 1056) (by decide +kernel)⟩
theorem lw_p67 : lw_okq (⟨"KindJudgeModel", "simple", "(IJ)I"⟩, 35) := ⟨⟨by decide +kernel, by decide +kernel⟩, List.mem_of_getElem? (i := 752) (by decide +kernel), List.mem_of_getElem? (i := 1059) (by decide +kernel), List.mem_of_getElem? (i := 1060) (by decide +kernel)⟩
theorem lw_p68 : lw_okq (⟨"KindJudgeModel", "put", "(J)V"⟩, 35) := ⟨⟨by decide +kernel, by decide +kernel⟩, List.mem_of_getElem? (i := 752) (by decide +kernel), List.mem_of_getElem? (i := 1063) (by decide +kernel), List.mem_of_getElem? (i := 1064) (by decide +kernel)⟩
theorem lw_p69 : lw_okq (⟨"KindJudgeModel", "putLong", "(J)V"⟩, 35) := ⟨⟨by decide +kernel, by decide +kernel⟩, List.mem_of_getElem? (i := 752) (by decide +kernel), List.mem_of_getElem? (i := 1067) (by decide +kernel), List.mem_of_getElem? (i := 1068) (by decide +kernel)⟩
theorem lw_p70 : lw_okq (⟨"KindJudgeModel", "take", "()J"⟩, 35) := ⟨⟨by decide +kernel, by decide +kernel⟩, List.mem_of_getElem? (i := 752) (by decide +kernel), List.mem_of_getElem? (i := 1071) (by decide +kernel), List.mem_of_getElem? (i := 1072) (by decide +kernel)⟩
theorem lw_p71 : lw_okq (⟨"KindJudgeModel", "takeLong", "()J"⟩, 35) := ⟨⟨by decide +kernel, by decide +kernel⟩, List.mem_of_getElem? (i := 752) (by decide +kernel), List.mem_of_getElem? (i := 1075) (by decide +kernel), List.mem_of_getElem? (i := 1076) (by decide +kernel)⟩
theorem lw_p72 : lw_okq (⟨"KindJudgeModel", "make", "(II)I"⟩, 35) := ⟨⟨by decide +kernel, by decide +kernel⟩, List.mem_of_getElem? (i := 752) (by decide +kernel), List.mem_of_getElem? (i := 1087) (by decide +kernel), List.mem_of_getElem? (i := 1088) (by decide +kernel)⟩
theorem lw_p73 : lw_okq (⟨"KindJudgeModel", "ofThings", "(IJ)I"⟩, 35) := ⟨⟨by decide +kernel, by decide +kernel⟩, List.mem_of_getElem? (i := 752) (by decide +kernel), List.mem_of_getElem? (i := 1091) (by decide +kernel), List.mem_of_getElem? (i := 1092) (by decide +kernel)⟩
theorem lw_p74 : lw_okq (⟨"KindJudgeModel", "isOf", "(II)Z"⟩, 35) := ⟨⟨by decide +kernel, by decide +kernel⟩, List.mem_of_getElem? (i := 752) (by decide +kernel), List.mem_of_getElem? (i := 1095) (by decide +kernel), List.mem_of_getElem? (i := 1096) (by decide +kernel)⟩
theorem lw_p75 : lw_okq (⟨"KindJudgeModel", "worth", "(I)I"⟩, 35) := ⟨⟨by decide +kernel, by decide +kernel⟩, List.mem_of_getElem? (i := 752) (by decide +kernel), List.mem_of_getElem? (i := 1099) (by decide +kernel), List.mem_of_getElem? (i := 1100) (by decide +kernel)⟩
theorem lw_p76 : lw_okq (⟨"KindJudgeModel", "others", "(IJ)I"⟩, 35) := ⟨⟨by decide +kernel, by decide +kernel⟩, List.mem_of_getElem? (i := 752) (by decide +kernel), List.mem_of_getElem? (i := 1103) (by decide +kernel), List.mem_of_getElem? (i := 1104) (by decide +kernel)⟩
theorem lw_p77 : lw_okq (⟨"KindJudgeModel", "calls", "(I)V"⟩, 35) := ⟨⟨by decide +kernel, by decide +kernel⟩, List.mem_of_getElem? (i := 752) (by decide +kernel), List.mem_of_getElem? (i := 1107) (by decide +kernel), List.mem_of_getElem? (i := 1108) (by decide +kernel)⟩
theorem lw_p78 : lw_okq (⟨"KindJudgeModel", "after", "(I)I"⟩, 35) := ⟨⟨by decide +kernel, by decide +kernel⟩, List.mem_of_getElem? (i := 752) (by decide +kernel), List.mem_of_getElem? (i := 1111) (by decide +kernel), List.mem_of_getElem? (i := 1112) (by decide +kernel)⟩
def lw_privs_5 : List (MethodName × Nat) := [(⟨"KindJudgeModel", "ahead", "(I)V"⟩, 35), (⟨"KindJudgeModel", "areRight", "(I)Z"⟩, 35), (⟨"KindJudgeModel", "works", "()I"⟩, 35), (⟨"KindJudgeModel", "simple", "(IJ)I"⟩, 35), (⟨"KindJudgeModel", "put", "(J)V"⟩, 35), (⟨"KindJudgeModel", "putLong", "(J)V"⟩, 35), (⟨"KindJudgeModel", "take", "()J"⟩, 35), (⟨"KindJudgeModel", "takeLong", "()J"⟩, 35), (⟨"KindJudgeModel", "make", "(II)I"⟩, 35), (⟨"KindJudgeModel", "ofThings", "(IJ)I"⟩, 35), (⟨"KindJudgeModel", "isOf", "(II)Z"⟩, 35), (⟨"KindJudgeModel", "worth", "(I)I"⟩, 35), (⟨"KindJudgeModel", "others", "(IJ)I"⟩, 35), (⟨"KindJudgeModel", "calls", "(I)V"⟩, 35), (⟨"KindJudgeModel", "after", "(I)I"⟩, 35)]
theorem lw_r5 : ∀ q ∈ lw_privs_5, lw_okq q := List.forall_mem_cons.mpr ⟨lw_p64, List.forall_mem_cons.mpr ⟨lw_p65, List.forall_mem_cons.mpr ⟨lw_p66, List.forall_mem_cons.mpr ⟨lw_p67, List.forall_mem_cons.mpr ⟨lw_p68, List.forall_mem_cons.mpr ⟨lw_p69, List.forall_mem_cons.mpr ⟨lw_p70, List.forall_mem_cons.mpr ⟨lw_p71, List.forall_mem_cons.mpr ⟨lw_p72, List.forall_mem_cons.mpr ⟨lw_p73, List.forall_mem_cons.mpr ⟨lw_p74, List.forall_mem_cons.mpr ⟨lw_p75, List.forall_mem_cons.mpr ⟨lw_p76, List.forall_mem_cons.mpr ⟨lw_p77, List.forall_mem_cons.mpr ⟨lw_p78, fun _ h => absurd h List.not_mem_nil⟩⟩⟩⟩⟩⟩⟩⟩⟩⟩⟩⟩⟩⟩⟩
def lw_privs : List (MethodName × Nat) := lw_privs_1 ++ (lw_privs_2 ++ (lw_privs_3 ++ (lw_privs_4 ++ (lw_privs_5))))
def lw_tbl : List Cond := k2_sels lw_privs ++ tables_1
theorem lw_privs_ok : ∀ q ∈ lw_privs, lw_okq q := by
  show ∀ q ∈ lw_privs_1 ++ (lw_privs_2 ++ (lw_privs_3 ++ (lw_privs_4 ++ (lw_privs_5)))), lw_okq q
  exact List.forall_mem_append.mpr ⟨lw_r1, List.forall_mem_append.mpr ⟨lw_r2, List.forall_mem_append.mpr ⟨lw_r3, List.forall_mem_append.mpr ⟨lw_r4, lw_r5⟩⟩⟩⟩
-- ===== end of PART A; then your names; then what follows =====
end
section
def RX0 : String := "KindJudge$Code"
def TX0 : u_T := fun k => match k with
  | 0 => ("KindJudge$Code", "number", "I", true)
  | 1 => ("KindJudge$Code", "params", "I", true)
  | 2 => ("KindJudge$Code", "ops", "[I", true)
  | 3 => ("KindJudge$Code", "args", "[J", true)
  | 4 => ("KindJudge$Code", "size", "I", false)
  | 5 => ("KindJudge$Code", "froms", "[I", true)
  | 6 => ("KindJudge$Code", "tos", "[I", true)
  | 7 => ("KindJudge$Code", "ats", "[I", true)
  | 8 => ("KindJudge$Code", "whats", "[I", true)
  | 9 => ("KindJudge$Code", "handlers", "I", false)
  | 10 => ("KindJudge$Code", "frames", "[LKindJudge$Places;", true)
  | _ => ("KindJudge$Code", "right", "Z", false)
def tyX0 : Nat → FieldType := fun k => match k with
  | 0 => .int
  | 1 => .int
  | 2 => .array .int
  | 3 => .array .long
  | 4 => .int
  | 5 => .array .int
  | 6 => .array .int
  | 7 => .array .int
  | 8 => .array .int
  | 9 => .int
  | 10 => .array (.object "KindJudge$Places")
  | _ => .boolean
abbrev wsX00 : List Cond := u_ws RX0 TX0 12
theorem nmX0 : ∀ a, a < 12 → ∀ b, b < 12 → a ≠ b → (TX0 a).2.1 ≠ (TX0 b).2.1 := by decide +kernel
theorem tyX0_ok : ∀ k, k < 12 → parseFieldDescriptor (TX0 k).2.2.1 = some (tyX0 k) := by decide +kernel
abbrev cX0_init : ByteArray := prog_2_method_1_code
def yX0_init : MethodName := ⟨RX0, "<init>", "(II)V"⟩
abbrev cX0_addInstruction : ByteArray := prog_2_method_2_code
def yX0_addInstruction : MethodName := ⟨RX0, "addInstruction", "(IJ)I"⟩
abbrev cX0_addHandler : ByteArray := prog_2_method_3_code
def yX0_addHandler : MethodName := ⟨RX0, "addHandler", "(IIII)I"⟩
abbrev cX0_putFrame : ByteArray := prog_2_method_4_code
def yX0_putFrame : MethodName := ⟨RX0, "putFrame", "(II)V"⟩
abbrev cX0_frameOf : ByteArray := prog_2_method_5_code
def yX0_frameOf : MethodName := ⟨RX0, "frameOf", "(I)LKindJudge$Places;"⟩
abbrev cX0_hasInstruction : ByteArray := prog_2_method_6_code
def yX0_hasInstruction : MethodName := ⟨RX0, "hasInstruction", "(J)Z"⟩
abbrev cX0_covers : ByteArray := prog_2_method_7_code
def yX0_covers : MethodName := ⟨RX0, "covers", "(II)Z"⟩
abbrev cX0_handlerFor : ByteArray := prog_2_method_8_code
def yX0_handlerFor : MethodName := ⟨RX0, "handlerFor", "(II)I"⟩
abbrev cX0_called : ByteArray := prog_2_method_9_code
def yX0_called : MethodName := ⟨RX0, "called", "()I"⟩
def RX1 : String := "KindJudge$Heap"
def TX1 : u_T := fun k => match k with
  | 0 => ("KindJudge$Heap", "kinds", "[I", true)
  | 1 => ("KindJudge$Heap", "lengths", "[I", true)
  | 2 => ("KindJudge$Heap", "fields", "[I", true)
  | 3 => ("KindJudge$Heap", "items", "[I", true)
  | _ => ("KindJudge$Heap", "made", "I", false)
def tyX1 : Nat → FieldType := fun k => match k with
  | 0 => .array .int
  | 1 => .array .int
  | 2 => .array .int
  | 3 => .array .int
  | _ => .int
abbrev wsX10 : List Cond := u_ws RX1 TX1 5
theorem nmX1 : ∀ a, a < 5 → ∀ b, b < 5 → a ≠ b → (TX1 a).2.1 ≠ (TX1 b).2.1 := by decide +kernel
theorem tyX1_ok : ∀ k, k < 5 → parseFieldDescriptor (TX1 k).2.2.1 = some (tyX1 k) := by decide +kernel
abbrev cX1_init : ByteArray := prog_3_method_1_code
def yX1_init : MethodName := ⟨RX1, "<init>", "()V"⟩
abbrev cX1_isNull : ByteArray := prog_3_method_2_code
def yX1_isNull : MethodName := ⟨RX1, "isNull", "(I)Z"⟩
abbrev cX1_make : ByteArray := prog_3_method_3_code
def yX1_make : MethodName := ⟨RX1, "make", "(II)I"⟩
abbrev cX1_length : ByteArray := prog_3_method_4_code
def yX1_length : MethodName := ⟨RX1, "length", "(I)I"⟩
abbrev cX1_hasItem : ByteArray := prog_3_method_5_code
def yX1_hasItem : MethodName := ⟨RX1, "hasItem", "(II)Z"⟩
abbrev cX1_item : ByteArray := prog_3_method_6_code
def yX1_item : MethodName := ⟨RX1, "item", "(II)I"⟩
abbrev cX1_putItem : ByteArray := prog_3_method_7_code
def yX1_putItem : MethodName := ⟨RX1, "putItem", "(III)V"⟩
abbrev cX1_field : ByteArray := prog_3_method_8_code
def yX1_field : MethodName := ⟨RX1, "field", "(I)I"⟩
abbrev cX1_putField : ByteArray := prog_3_method_9_code
def yX1_putField : MethodName := ⟨RX1, "putField", "(II)V"⟩
abbrev cX1_isOf : ByteArray := prog_3_method_10_code
def yX1_isOf : MethodName := ⟨RX1, "isOf", "(II)Z"⟩
abbrev cX1_canHold : ByteArray := prog_3_method_11_code
def yX1_canHold : MethodName := ⟨RX1, "canHold", "(II)Z"⟩
abbrev cX1_worth : ByteArray := prog_3_method_12_code
def yX1_worth : MethodName := ⟨RX1, "worth", "(I)I"⟩
def RX2 : String := "KindJudge$Judging"
def TX2 : u_T := fun k => match k with
  | 0 => ("KindJudge$Judging", "ahead", "[LKindJudge$Places;", true)
  | 1 => ("KindJudge$Judging", "caught", "LKindJudge$Places;", true)
  | 2 => ("KindJudge$Judging", "step", "LKindJudge$Step;", true)
  | 3 => ("KindJudge$Judging", "judgedSize", "I", false)
  | 4 => ("KindJudge$Judging", "changed", "Z", false)
  | _ => ("KindJudge$Judging", "roundsGone", "I", false)
def tyX2 : Nat → FieldType := fun k => match k with
  | 0 => .array (.object "KindJudge$Places")
  | 1 => .object "KindJudge$Places"
  | 2 => .object "KindJudge$Step"
  | 3 => .int
  | 4 => .boolean
  | _ => .int
abbrev wsX20 : List Cond := u_ws RX2 TX2 6
theorem nmX2 : ∀ a, a < 6 → ∀ b, b < 6 → a ≠ b → (TX2 a).2.1 ≠ (TX2 b).2.1 := by decide +kernel
theorem tyX2_ok : ∀ k, k < 6 → parseFieldDescriptor (TX2 k).2.2.1 = some (tyX2 k) := by decide +kernel
abbrev cX2_init : ByteArray := prog_4_method_1_code
def yX2_init : MethodName := ⟨RX2, "<init>", "()V"⟩
abbrev cX2_kindAhead : ByteArray := prog_4_method_2_code
def yX2_kindAhead : MethodName := ⟨RX2, "kindAhead", "(II)I"⟩
abbrev cX2_forget : ByteArray := prog_4_method_3_code
def yX2_forget : MethodName := ⟨RX2, "forget", "(LKindJudge$Code;)V"⟩
abbrev cX2_byFrames : ByteArray := prog_4_method_4_code
def yX2_byFrames : MethodName := ⟨RX2, "byFrames", "(LKindJudge$Program;LKindJudge$Code;)I"⟩
abbrev cX2_leadsToFrame : ByteArray := prog_4_method_5_code
def yX2_leadsToFrame : MethodName := ⟨RX2, "leadsToFrame", "(LKindJudge$Code;)Z"⟩
abbrev cX2_handlersFit : ByteArray := prog_4_method_6_code
def yX2_handlersFit : MethodName := ⟨RX2, "handlersFit", "(LKindJudge$Code;I)Z"⟩
abbrev cX2_byJoining : ByteArray := prog_4_method_7_code
def yX2_byJoining : MethodName := ⟨RX2, "byJoining", "(LKindJudge$Program;LKindJudge$Code;)I"⟩
abbrev cX2_handsOn : ByteArray := prog_4_method_8_code
def yX2_handsOn : MethodName := ⟨RX2, "handsOn", "(LKindJudge$Program;LKindJudge$Code;I)Z"⟩
abbrev cX2_arrives : ByteArray := prog_4_method_9_code
def yX2_arrives : MethodName := ⟨RX2, "arrives", "(LKindJudge$Code;ILKindJudge$Places;)Z"⟩
def RX3 : String := "KindJudge$Kinds"
def TX3 : u_T := fun k => match k with
  | _ => ("", "", "", false)
def tyX3 : Nat → FieldType := fun k => match k with
  | _ => .int
abbrev wsX30 : List Cond := u_ws RX3 TX3 0
theorem nmX3 : ∀ a, a < 0 → ∀ b, b < 0 → a ≠ b → (TX3 a).2.1 ≠ (TX3 b).2.1 := by decide +kernel
theorem tyX3_ok : ∀ k, k < 0 → parseFieldDescriptor (TX3 k).2.2.1 = some (tyX3 k) := by decide +kernel
abbrev cX3_isClass : ByteArray := prog_5_method_2_code
def yX3_isClass : MethodName := ⟨RX3, "isClass", "(J)Z"⟩
abbrev cX3_isClassOrFace : ByteArray := prog_5_method_3_code
def yX3_isClassOrFace : MethodName := ⟨RX3, "isClassOrFace", "(J)Z"⟩
abbrev cX3_isObject : ByteArray := prog_5_method_4_code
def yX3_isObject : MethodName := ⟨RX3, "isObject", "(I)Z"⟩
abbrev cX3_isRow : ByteArray := prog_5_method_5_code
def yX3_isRow : MethodName := ⟨RX3, "isRow", "(I)Z"⟩
abbrev cX3_isUnmade : ByteArray := prog_5_method_6_code
def yX3_isUnmade : MethodName := ⟨RX3, "isUnmade", "(I)Z"⟩
abbrev cX3_isKind : ByteArray := prog_5_method_7_code
def yX3_isKind : MethodName := ⟨RX3, "isKind", "(I)Z"⟩
abbrev cX3_isReference : ByteArray := prog_5_method_8_code
def yX3_isReference : MethodName := ⟨RX3, "isReference", "(I)Z"⟩
abbrev cX3_isOnePlace : ByteArray := prog_5_method_9_code
def yX3_isOnePlace : MethodName := ⟨RX3, "isOnePlace", "(I)Z"⟩
abbrev cX3_isUnder : ByteArray := prog_5_method_10_code
def yX3_isUnder : MethodName := ⟨RX3, "isUnder", "(II)Z"⟩
abbrev cX3_goesTo : ByteArray := prog_5_method_11_code
def yX3_goesTo : MethodName := ⟨RX3, "goesTo", "(II)Z"⟩
abbrev cX3_joinOf : ByteArray := prog_5_method_12_code
def yX3_joinOf : MethodName := ⟨RX3, "joinOf", "(II)I"⟩
abbrev cX3_sharedClass : ByteArray := prog_5_method_13_code
def yX3_sharedClass : MethodName := ⟨RX3, "sharedClass", "(II)I"⟩
def RX4 : String := "KindJudge$Machine"
def TX4 : u_T := fun k => match k with
  | 0 => ("KindJudge$Machine", "heap", "LKindJudge$Heap;", true)
  | 1 => ("KindJudge$Machine", "codes", "[LKindJudge$Code;", true)
  | 2 => ("KindJudge$Machine", "ats", "[I", true)
  | 3 => ("KindJudge$Machine", "depths", "[I", true)
  | 4 => ("KindJudge$Machine", "locals", "[J", true)
  | 5 => ("KindJudge$Machine", "stack", "[J", true)
  | 6 => ("KindJudge$Machine", "level", "I", false)
  | 7 => ("KindJudge$Machine", "outcome", "I", false)
  | 8 => ("KindJudge$Machine", "ownFailure", "I", false)
  | 9 => ("KindJudge$Machine", "result", "I", false)
  | 10 => ("KindJudge$Machine", "done", "I", false)
  | 11 => ("KindJudge$Machine", "failures", "I", false)
  | 12 => ("KindJudge$Machine", "failMethod", "I", false)
  | _ => ("KindJudge$Machine", "failAt", "I", false)
def tyX4 : Nat → FieldType := fun k => match k with
  | 0 => .object "KindJudge$Heap"
  | 1 => .array (.object "KindJudge$Code")
  | 2 => .array .int
  | 3 => .array .int
  | 4 => .array .long
  | 5 => .array .long
  | 6 => .int
  | 7 => .int
  | 8 => .int
  | 9 => .int
  | 10 => .int
  | 11 => .int
  | 12 => .int
  | _ => .int
abbrev wsX40 : List Cond := u_ws RX4 TX4 14
theorem nmX4 : ∀ a, a < 14 → ∀ b, b < 14 → a ≠ b → (TX4 a).2.1 ≠ (TX4 b).2.1 := by decide +kernel
theorem tyX4_ok : ∀ k, k < 14 → parseFieldDescriptor (TX4 k).2.2.1 = some (tyX4 k) := by decide +kernel
abbrev cX4_init : ByteArray := prog_6_method_1_code
def yX4_init : MethodName := ⟨RX4, "<init>", "()V"⟩
abbrev cX4_prepare : ByteArray := prog_6_method_2_code
def yX4_prepare : MethodName := ⟨RX4, "prepare", "(LKindJudge$Code;)V"⟩
abbrev cX4_giveParams : ByteArray := prog_6_method_3_code
def yX4_giveParams : MethodName := ⟨RX4, "giveParams", "(IIII)V"⟩
abbrev cX4_goOn : ByteArray := prog_6_method_4_code
def yX4_goOn : MethodName := ⟨RX4, "goOn", "(LKindJudge$Program;)I"⟩
abbrev cX4_enter : ByteArray := prog_6_method_5_code
def yX4_enter : MethodName := ⟨RX4, "enter", "(LKindJudge$Code;)V"⟩
abbrev cX4_doNext : ByteArray := prog_6_method_6_code
def yX4_doNext : MethodName := ⟨RX4, "doNext", "(LKindJudge$Program;)V"⟩
abbrev cX4_arises : ByteArray := prog_6_method_7_code
def yX4_arises : MethodName := ⟨RX4, "arises", "(I)V"⟩
abbrev cX4_catches : ByteArray := prog_6_method_8_code
def yX4_catches : MethodName := ⟨RX4, "catches", "(LKindJudge$Code;II)Z"⟩
abbrev cX4_end : ByteArray := prog_6_method_9_code
def yX4_end : MethodName := ⟨RX4, "end", "(II)V"⟩
abbrev cX4_push : ByteArray := prog_6_method_10_code
def yX4_push : MethodName := ⟨RX4, "push", "(J)V"⟩
abbrev cX4_pop : ByteArray := prog_6_method_11_code
def yX4_pop : MethodName := ⟨RX4, "pop", "()J"⟩
abbrev cX4_popInt : ByteArray := prog_6_method_12_code
def yX4_popInt : MethodName := ⟨RX4, "popInt", "()I"⟩
abbrev cX4_pushLong : ByteArray := prog_6_method_13_code
def yX4_pushLong : MethodName := ⟨RX4, "pushLong", "(J)V"⟩
abbrev cX4_popLong : ByteArray := prog_6_method_14_code
def yX4_popLong : MethodName := ⟨RX4, "popLong", "()J"⟩
abbrev cX4_does : ByteArray := prog_6_method_15_code
def yX4_does : MethodName := ⟨RX4, "does", "(LKindJudge$Program;IJ)I"⟩
abbrev cX4_moves : ByteArray := prog_6_method_16_code
def yX4_moves : MethodName := ⟨RX4, "moves", "(IJ)I"⟩
abbrev cX4_reckons : ByteArray := prog_6_method_17_code
def yX4_reckons : MethodName := ⟨RX4, "reckons", "(IJ)I"⟩
abbrev cX4_relatesInts : ByteArray := prog_6_method_18_code
def yX4_relatesInts : MethodName := ⟨RX4, "relatesInts", "(I)I"⟩
abbrev cX4_relatesLongs : ByteArray := prog_6_method_19_code
def yX4_relatesLongs : MethodName := ⟨RX4, "relatesLongs", "(I)I"⟩
abbrev cX4_related : ByteArray := prog_6_method_20_code
def yX4_related : MethodName := ⟨RX4, "related", "(IJJ)J"⟩
abbrev cX4_makes : ByteArray := prog_6_method_21_code
def yX4_makes : MethodName := ⟨RX4, "makes", "(IJ)I"⟩
abbrev cX4_pushNew : ByteArray := prog_6_method_22_code
def yX4_pushNew : MethodName := ⟨RX4, "pushNew", "(II)I"⟩
abbrev cX4_usesArray : ByteArray := prog_6_method_23_code
def yX4_usesArray : MethodName := ⟨RX4, "usesArray", "(I)I"⟩
abbrev cX4_asks : ByteArray := prog_6_method_24_code
def yX4_asks : MethodName := ⟨RX4, "asks", "(II)I"⟩
abbrev cX4_usesObject : ByteArray := prog_6_method_25_code
def yX4_usesObject : MethodName := ⟨RX4, "usesObject", "(I)I"⟩
abbrev cX4_turns : ByteArray := prog_6_method_26_code
def yX4_turns : MethodName := ⟨RX4, "turns", "(I)I"⟩
abbrev cX4_leads : ByteArray := prog_6_method_27_code
def yX4_leads : MethodName := ⟨RX4, "leads", "(LKindJudge$Program;IJ)I"⟩
abbrev cX4_jumpsIf : ByteArray := prog_6_method_28_code
def yX4_jumpsIf : MethodName := ⟨RX4, "jumpsIf", "(ZJ)I"⟩
abbrev cX4_returns : ByteArray := prog_6_method_29_code
def yX4_returns : MethodName := ⟨RX4, "returns", "(I)I"⟩
abbrev cX4_calls : ByteArray := prog_6_method_30_code
def yX4_calls : MethodName := ⟨RX4, "calls", "(LKindJudge$Code;)I"⟩
def RX5 : String := "KindJudge$Op"
def TX5 : u_T := fun k => match k with
  | _ => ("", "", "", false)
def tyX5 : Nat → FieldType := fun k => match k with
  | _ => .int
abbrev wsX50 : List Cond := u_ws RX5 TX5 0
theorem nmX5 : ∀ a, a < 0 → ∀ b, b < 0 → a ≠ b → (TX5 a).2.1 ≠ (TX5 b).2.1 := by decide +kernel
theorem tyX5_ok : ∀ k, k < 0 → parseFieldDescriptor (TX5 k).2.2.1 = some (tyX5 k) := by decide +kernel
def RX6 : String := "KindJudge$Places"
def TX6 : u_T := fun k => match k with
  | 0 => ("KindJudge$Places", "kinds", "[I", true)
  | _ => ("KindJudge$Places", "depth", "I", false)
def tyX6 : Nat → FieldType := fun k => match k with
  | 0 => .array .int
  | _ => .int
abbrev wsX60 : List Cond := u_ws RX6 TX6 2
theorem nmX6 : ∀ a, a < 2 → ∀ b, b < 2 → a ≠ b → (TX6 a).2.1 ≠ (TX6 b).2.1 := by decide +kernel
theorem tyX6_ok : ∀ k, k < 2 → parseFieldDescriptor (TX6 k).2.2.1 = some (tyX6 k) := by decide +kernel
abbrev cX6_init : ByteArray := prog_8_method_1_code
def yX6_init : MethodName := ⟨RX6, "<init>", "()V"⟩
abbrev cX6_clear : ByteArray := prog_8_method_2_code
def yX6_clear : MethodName := ⟨RX6, "clear", "(I)V"⟩
abbrev cX6_begin : ByteArray := prog_8_method_3_code
def yX6_begin : MethodName := ⟨RX6, "begin", "(I)V"⟩
abbrev cX6_copyFrom : ByteArray := prog_8_method_4_code
def yX6_copyFrom : MethodName := ⟨RX6, "copyFrom", "(LKindJudge$Places;)V"⟩
abbrev cX6_has : ByteArray := prog_8_method_5_code
def yX6_has : MethodName := ⟨RX6, "has", "(I)Z"⟩
abbrev cX6_exchange : ByteArray := prog_8_method_6_code
def yX6_exchange : MethodName := ⟨RX6, "exchange", "(II)I"⟩
abbrev cX6_becomeCaught : ByteArray := prog_8_method_7_code
def yX6_becomeCaught : MethodName := ⟨RX6, "becomeCaught", "(LKindJudge$Places;)V"⟩
abbrev cX6_goesTo : ByteArray := prog_8_method_8_code
def yX6_goesTo : MethodName := ⟨RX6, "goesTo", "(LKindJudge$Places;)Z"⟩
abbrev cX6_takeIn : ByteArray := prog_8_method_9_code
def yX6_takeIn : MethodName := ⟨RX6, "takeIn", "(LKindJudge$Places;)Z"⟩
abbrev cX6_push : ByteArray := prog_8_method_10_code
def yX6_push : MethodName := ⟨RX6, "push", "(I)Z"⟩
abbrev cX6_pushLong : ByteArray := prog_8_method_11_code
def yX6_pushLong : MethodName := ⟨RX6, "pushLong", "()Z"⟩
abbrev cX6_top : ByteArray := prog_8_method_12_code
def yX6_top : MethodName := ⟨RX6, "top", "()I"⟩
abbrev cX6_pop : ByteArray := prog_8_method_13_code
def yX6_pop : MethodName := ⟨RX6, "pop", "(I)Z"⟩
abbrev cX6_popLong : ByteArray := prog_8_method_14_code
def yX6_popLong : MethodName := ⟨RX6, "popLong", "()Z"⟩
abbrev cX6_popOne : ByteArray := prog_8_method_15_code
def yX6_popOne : MethodName := ⟨RX6, "popOne", "()I"⟩
abbrev cX6_popRow : ByteArray := prog_8_method_16_code
def yX6_popRow : MethodName := ⟨RX6, "popRow", "()I"⟩
abbrev cX6_write : ByteArray := prog_8_method_17_code
def yX6_write : MethodName := ⟨RX6, "write", "(II)V"⟩
abbrev cX6_writeLong : ByteArray := prog_8_method_18_code
def yX6_writeLong : MethodName := ⟨RX6, "writeLong", "(I)V"⟩
abbrev cX6_stackHolds : ByteArray := prog_8_method_19_code
def yX6_stackHolds : MethodName := ⟨RX6, "stackHolds", "(I)Z"⟩
abbrev cX6_replace : ByteArray := prog_8_method_20_code
def yX6_replace : MethodName := ⟨RX6, "replace", "(II)V"⟩
def RX7 : String := "KindJudge$Program"
def TX7 : u_T := fun k => match k with
  | 0 => ("KindJudge$Program", "codes", "[LKindJudge$Code;", true)
  | _ => ("KindJudge$Program", "size", "I", false)
def tyX7 : Nat → FieldType := fun k => match k with
  | 0 => .array (.object "KindJudge$Code")
  | _ => .int
abbrev wsX70 : List Cond := u_ws RX7 TX7 2
theorem nmX7 : ∀ a, a < 2 → ∀ b, b < 2 → a ≠ b → (TX7 a).2.1 ≠ (TX7 b).2.1 := by decide +kernel
theorem tyX7_ok : ∀ k, k < 2 → parseFieldDescriptor (TX7 k).2.2.1 = some (tyX7 k) := by decide +kernel
abbrev cX7_init : ByteArray := prog_9_method_1_code
def yX7_init : MethodName := ⟨RX7, "<init>", "()V"⟩
abbrev cX7_add : ByteArray := prog_9_method_2_code
def yX7_add : MethodName := ⟨RX7, "add", "(I)I"⟩
abbrev cX7_at : ByteArray := prog_9_method_3_code
def yX7_at : MethodName := ⟨RX7, "at", "(J)LKindJudge$Code;"⟩
abbrev cX7_isReady : ByteArray := prog_9_method_4_code
def yX7_isReady : MethodName := ⟨RX7, "isReady", "(I)Z"⟩
def RX8 : String := "KindJudge$Step"
def TX8 : u_T := fun k => match k with
  | 0 => ("KindJudge$Step", "now", "LKindJudge$Places;", true)
  | 1 => ("KindJudge$Step", "leads", "I", false)
  | _ => ("KindJudge$Step", "falls", "Z", false)
def tyX8 : Nat → FieldType := fun k => match k with
  | 0 => .object "KindJudge$Places"
  | 1 => .int
  | _ => .boolean
abbrev wsX80 : List Cond := u_ws RX8 TX8 3
theorem nmX8 : ∀ a, a < 3 → ∀ b, b < 3 → a ≠ b → (TX8 a).2.1 ≠ (TX8 b).2.1 := by decide +kernel
theorem tyX8_ok : ∀ k, k < 3 → parseFieldDescriptor (TX8 k).2.2.1 = some (tyX8 k) := by decide +kernel
abbrev cX8_init : ByteArray := prog_10_method_1_code
def yX8_init : MethodName := ⟨RX8, "<init>", "()V"⟩
abbrev cX8_does : ByteArray := prog_10_method_2_code
def yX8_does : MethodName := ⟨RX8, "does", "(LKindJudge$Program;LKindJudge$Code;I)Z"⟩
abbrev cX8_moves : ByteArray := prog_10_method_3_code
def yX8_moves : MethodName := ⟨RX8, "moves", "(IJ)Z"⟩
abbrev cX8_stores : ByteArray := prog_10_method_4_code
def yX8_stores : MethodName := ⟨RX8, "stores", "(I)Z"⟩
abbrev cX8_storesLong : ByteArray := prog_10_method_5_code
def yX8_storesLong : MethodName := ⟨RX8, "storesLong", "(I)Z"⟩
abbrev cX8_holdsLong : ByteArray := prog_10_method_6_code
def yX8_holdsLong : MethodName := ⟨RX8, "holdsLong", "(I)Z"⟩
abbrev cX8_reckons : ByteArray := prog_10_method_7_code
def yX8_reckons : MethodName := ⟨RX8, "reckons", "(IJ)Z"⟩
abbrev cX8_begins : ByteArray := prog_10_method_8_code
def yX8_begins : MethodName := ⟨RX8, "begins", "(IJ)Z"⟩
abbrev cX8_finishes : ByteArray := prog_10_method_9_code
def yX8_finishes : MethodName := ⟨RX8, "finishes", "(LKindJudge$Code;J)Z"⟩
abbrev cX8_usesArray : ByteArray := prog_10_method_10_code
def yX8_usesArray : MethodName := ⟨RX8, "usesArray", "(IJ)Z"⟩
abbrev cX8_takes : ByteArray := prog_10_method_11_code
def yX8_takes : MethodName := ⟨RX8, "takes", "(I)Z"⟩
abbrev cX8_usesObject : ByteArray := prog_10_method_12_code
def yX8_usesObject : MethodName := ⟨RX8, "usesObject", "(IJ)Z"⟩
abbrev cX8_turns : ByteArray := prog_10_method_13_code
def yX8_turns : MethodName := ⟨RX8, "turns", "(I)Z"⟩
abbrev cX8_calls : ByteArray := prog_10_method_14_code
def yX8_calls : MethodName := ⟨RX8, "calls", "(LKindJudge$Program;LKindJudge$Code;J)Z"⟩
abbrev cX8_goesElsewhere : ByteArray := prog_10_method_15_code
def yX8_goesElsewhere : MethodName := ⟨RX8, "goesElsewhere", "(LKindJudge$Code;IJ)Z"⟩
def RX9 : String := "KindJudge"
def TX9 : u_T := fun k => match k with
  | 0 => ("KindJudge", "program", "LKindJudge$Program;", true)
  | 1 => ("KindJudge", "judging", "LKindJudge$Judging;", true)
  | _ => ("KindJudge", "machine", "LKindJudge$Machine;", true)
def tyX9 : Nat → FieldType := fun k => match k with
  | 0 => .object "KindJudge$Program"
  | 1 => .object "KindJudge$Judging"
  | _ => .object "KindJudge$Machine"
abbrev wsX90 : List Cond := u_ws RX9 TX9 3
theorem nmX9 : ∀ a, a < 3 → ∀ b, b < 3 → a ≠ b → (TX9 a).2.1 ≠ (TX9 b).2.1 := by decide +kernel
theorem tyX9_ok : ∀ k, k < 3 → parseFieldDescriptor (TX9 k).2.2.1 = some (tyX9 k) := by decide +kernel
abbrev cX9_init : ByteArray := prog_1_method_1_code
def yX9_init : MethodName := ⟨RX9, "<init>", "()V"⟩
abbrev cX9_method : ByteArray := prog_1_method_2_code
def yX9_method : MethodName := ⟨RX9, "method", "(I)I"⟩
abbrev cX9_op : ByteArray := prog_1_method_3_code
def yX9_op : MethodName := ⟨RX9, "op", "(IIJ)I"⟩
abbrev cX9_handler : ByteArray := prog_1_method_4_code
def yX9_handler : MethodName := ⟨RX9, "handler", "(IIIII)I"⟩
abbrev cX9_frame : ByteArray := prog_1_method_5_code
def yX9_frame : MethodName := ⟨RX9, "frame", "(III)I"⟩
abbrev cX9_set : ByteArray := prog_1_method_6_code
def yX9_set : MethodName := ⟨RX9, "set", "(IIII)I"⟩
abbrev cX9_judge : ByteArray := prog_1_method_7_code
def yX9_judge : MethodName := ⟨RX9, "judge", "(I)I"⟩
abbrev cX9_join : ByteArray := prog_1_method_8_code
def yX9_join : MethodName := ⟨RX9, "join", "(I)I"⟩
abbrev cX9_kind : ByteArray := prog_1_method_9_code
def yX9_kind : MethodName := ⟨RX9, "kind", "(II)I"⟩
abbrev cX9_rounds : ByteArray := prog_1_method_10_code
def yX9_rounds : MethodName := ⟨RX9, "rounds", "()I"⟩
abbrev cX9_kinds : ByteArray := prog_1_method_11_code
def yX9_kinds : MethodName := ⟨RX9, "kinds", "(IIZ)I"⟩
abbrev cX9_run : ByteArray := prog_1_method_12_code
def yX9_run : MethodName := ⟨RX9, "run", "(IIIII)I"⟩
abbrev cX9_answer : ByteArray := prog_1_method_13_code
def yX9_answer : MethodName := ⟨RX9, "answer", "()I"⟩
abbrev cX9_told : ByteArray := prog_1_method_14_code
def yX9_told : MethodName := ⟨RX9, "told", "(I)I"⟩
abbrev cX9_count : ByteArray := prog_1_method_15_code
def yX9_count : MethodName := ⟨RX9, "count", "(II)I"⟩
def RX10 : String := "KindJudgeModel"
def TX10 : u_T := fun k => match k with
  | 0 => ("KindJudgeModel", "methods", "I", false)
  | 1 => ("KindJudgeModel", "params", "[I", true)
  | 2 => ("KindJudgeModel", "opMany", "[I", true)
  | 3 => ("KindJudgeModel", "ops", "[I", true)
  | 4 => ("KindJudgeModel", "as", "[J", true)
  | 5 => ("KindJudgeModel", "handlerMany", "[I", true)
  | 6 => ("KindJudgeModel", "handlers", "[I", true)
  | 7 => ("KindJudgeModel", "frameDepth", "[I", true)
  | 8 => ("KindJudgeModel", "frames", "[I", true)
  | 9 => ("KindJudgeModel", "isRight", "[Z", true)
  | 10 => ("KindJudgeModel", "lookedMany", "I", false)
  | 11 => ("KindJudgeModel", "seenDepth", "[I", true)
  | 12 => ("KindJudgeModel", "seen", "[I", true)
  | 13 => ("KindJudgeModel", "rounds", "I", false)
  | 14 => ("KindJudgeModel", "hand", "[I", true)
  | 15 => ("KindJudgeModel", "depth", "I", false)
  | 16 => ("KindJudgeModel", "hasChanged", "Z", false)
  | 17 => ("KindJudgeModel", "came", "[I", true)
  | 18 => ("KindJudgeModel", "places", "[J", true)
  | 19 => ("KindJudgeModel", "heights", "[I", true)
  | 20 => ("KindJudgeModel", "methodAt", "[I", true)
  | 21 => ("KindJudgeModel", "pcs", "[I", true)
  | 22 => ("KindJudgeModel", "frame", "I", false)
  | 23 => ("KindJudgeModel", "made", "I", false)
  | 24 => ("KindJudgeModel", "sorts", "[I", true)
  | 25 => ("KindJudgeModel", "sizes", "[I", true)
  | 26 => ("KindJudgeModel", "fields", "[I", true)
  | 27 => ("KindJudgeModel", "things", "[J", true)
  | 28 => ("KindJudgeModel", "answer", "I", false)
  | 29 => ("KindJudgeModel", "done", "I", false)
  | 30 => ("KindJudgeModel", "failures", "I", false)
  | 31 => ("KindJudgeModel", "failedIn", "I", false)
  | 32 => ("KindJudgeModel", "failedAt", "I", false)
  | 33 => ("KindJudgeModel", "hasRun", "Z", false)
  | _ => ("KindJudgeModel", "failure", "I", false)
def tyX10 : Nat → FieldType := fun k => match k with
  | 0 => .int
  | 1 => .array .int
  | 2 => .array .int
  | 3 => .array .int
  | 4 => .array .long
  | 5 => .array .int
  | 6 => .array .int
  | 7 => .array .int
  | 8 => .array .int
  | 9 => .array .boolean
  | 10 => .int
  | 11 => .array .int
  | 12 => .array .int
  | 13 => .int
  | 14 => .array .int
  | 15 => .int
  | 16 => .boolean
  | 17 => .array .int
  | 18 => .array .long
  | 19 => .array .int
  | 20 => .array .int
  | 21 => .array .int
  | 22 => .int
  | 23 => .int
  | 24 => .array .int
  | 25 => .array .int
  | 26 => .array .int
  | 27 => .array .long
  | 28 => .int
  | 29 => .int
  | 30 => .int
  | 31 => .int
  | 32 => .int
  | 33 => .boolean
  | _ => .int
abbrev wsX100 : List Cond := u_ws RX10 TX10 35
theorem nmX10 : ∀ a, a < 35 → ∀ b, b < 35 → a ≠ b → (TX10 a).2.1 ≠ (TX10 b).2.1 := by decide +kernel
theorem tyX10_ok : ∀ k, k < 35 → parseFieldDescriptor (TX10 k).2.2.1 = some (tyX10 k) := by decide +kernel
abbrev cX10_init : ByteArray := prog_12_method_1_code
def yX10_init : MethodName := ⟨RX10, "<init>", "()V"⟩
abbrev cX10_isIn : ByteArray := prog_12_method_2_code
def yX10_isIn : MethodName := ⟨RX10, "isIn", "(JJJ)Z"⟩
abbrev cX10_isMethod : ByteArray := prog_12_method_3_code
def yX10_isMethod : MethodName := ⟨RX10, "isMethod", "(I)Z"⟩
abbrev cX10_above : ByteArray := prog_12_method_4_code
def yX10_above : MethodName := ⟨RX10, "above", "(I)I"⟩
abbrev cX10_isUnder : ByteArray := prog_12_method_5_code
def yX10_isUnder : MethodName := ⟨RX10, "isUnder", "(II)Z"⟩
abbrev cX10_isObject : ByteArray := prog_12_method_6_code
def yX10_isObject : MethodName := ⟨RX10, "isObject", "(I)Z"⟩
abbrev cX10_isRow : ByteArray := prog_12_method_7_code
def yX10_isRow : MethodName := ⟨RX10, "isRow", "(I)Z"⟩
abbrev cX10_isThing : ByteArray := prog_12_method_8_code
def yX10_isThing : MethodName := ⟨RX10, "isThing", "(I)Z"⟩
abbrev cX10_isKind : ByteArray := prog_12_method_9_code
def yX10_isKind : MethodName := ⟨RX10, "isKind", "(I)Z"⟩
abbrev cX10_goes : ByteArray := prog_12_method_10_code
def yX10_goes : MethodName := ⟨RX10, "goes", "(II)Z"⟩
abbrev cX10_common : ByteArray := prog_12_method_11_code
def yX10_common : MethodName := ⟨RX10, "common", "(II)I"⟩
abbrev cX10_joined : ByteArray := prog_12_method_12_code
def yX10_joined : MethodName := ⟨RX10, "joined", "(II)I"⟩
abbrev cX10_kinds : ByteArray := prog_12_method_13_code
def yX10_kinds : MethodName := ⟨RX10, "kinds", "(IIZ)I"⟩
abbrev cX10_method : ByteArray := prog_12_method_14_code
def yX10_method : MethodName := ⟨RX10, "method", "(I)I"⟩
abbrev cX10_changed : ByteArray := prog_12_method_15_code
def yX10_changed : MethodName := ⟨RX10, "changed", "(I)V"⟩
abbrev cX10_op : ByteArray := prog_12_method_16_code
def yX10_op : MethodName := ⟨RX10, "op", "(IIJ)I"⟩
abbrev cX10_handler : ByteArray := prog_12_method_17_code
def yX10_handler : MethodName := ⟨RX10, "handler", "(IIIII)I"⟩
abbrev cX10_frame : ByteArray := prog_12_method_18_code
def yX10_frame : MethodName := ⟨RX10, "frame", "(III)I"⟩
abbrev cX10_set : ByteArray := prog_12_method_19_code
def yX10_set : MethodName := ⟨RX10, "set", "(IIII)I"⟩
abbrev cX10_push : ByteArray := prog_12_method_20_code
def yX10_push : MethodName := ⟨RX10, "push", "(I)Z"⟩
abbrev cX10_pop : ByteArray := prog_12_method_21_code
def yX10_pop : MethodName := ⟨RX10, "pop", "(I)Z"⟩
abbrev cX10_pushLong : ByteArray := prog_12_method_22_code
def yX10_pushLong : MethodName := ⟨RX10, "pushLong", "()Z"⟩
abbrev cX10_popLong : ByteArray := prog_12_method_23_code
def yX10_popLong : MethodName := ⟨RX10, "popLong", "()Z"⟩
abbrev cX10_isOnePlace : ByteArray := prog_12_method_24_code
def yX10_isOnePlace : MethodName := ⟨RX10, "isOnePlace", "(I)Z"⟩
abbrev cX10_isOneOnTop : ByteArray := prog_12_method_25_code
def yX10_isOneOnTop : MethodName := ⟨RX10, "isOneOnTop", "(I)Z"⟩
abbrev cX10_local : ByteArray := prog_12_method_26_code
def yX10_local : MethodName := ⟨RX10, "local", "(II)V"⟩
abbrev cX10_does : ByteArray := prog_12_method_27_code
def yX10_does : MethodName := ⟨RX10, "does", "(II)Z"⟩
abbrev cX10_isNew : ByteArray := prog_12_method_28_code
def yX10_isNew : MethodName := ⟨RX10, "isNew", "(IJ)Z"⟩
abbrev cX10_isMade : ByteArray := prog_12_method_29_code
def yX10_isMade : MethodName := ⟨RX10, "isMade", "(IJ)Z"⟩
abbrev cX10_doesMore : ByteArray := prog_12_method_30_code
def yX10_doesMore : MethodName := ⟨RX10, "doesMore", "(IIIJ)Z"⟩
abbrev cX10_isLast : ByteArray := prog_12_method_31_code
def yX10_isLast : MethodName := ⟨RX10, "isLast", "(I)Z"⟩
abbrev cX10_leads : ByteArray := prog_12_method_32_code
def yX10_leads : MethodName := ⟨RX10, "leads", "(I)Z"⟩
abbrev cX10_begins : ByteArray := prog_12_method_33_code
def yX10_begins : MethodName := ⟨RX10, "begins", "(I)V"⟩
abbrev cX10_sees : ByteArray := prog_12_method_34_code
def yX10_sees : MethodName := ⟨RX10, "sees", "(I)V"⟩
abbrev cX10_takes : ByteArray := prog_12_method_35_code
def yX10_takes : MethodName := ⟨RX10, "takes", "(I)V"⟩
abbrev cX10_goesToFrame : ByteArray := prog_12_method_36_code
def yX10_goesToFrame : MethodName := ⟨RX10, "goesToFrame", "(II)Z"⟩
abbrev cX10_handlersFit : ByteArray := prog_12_method_37_code
def yX10_handlersFit : MethodName := ⟨RX10, "handlersFit", "(II)Z"⟩
abbrev cX10_wrongByFrames : ByteArray := prog_12_method_38_code
def yX10_wrongByFrames : MethodName := ⟨RX10, "wrongByFrames", "(I)I"⟩
abbrev cX10_judge : ByteArray := prog_12_method_39_code
def yX10_judge : MethodName := ⟨RX10, "judge", "(I)I"⟩
abbrev cX10_comesTo : ByteArray := prog_12_method_40_code
def yX10_comesTo : MethodName := ⟨RX10, "comesTo", "(II)Z"⟩
abbrev cX10_goesOn : ByteArray := prog_12_method_41_code
def yX10_goesOn : MethodName := ⟨RX10, "goesOn", "(II)Z"⟩
abbrev cX10_ahead : ByteArray := prog_12_method_42_code
def yX10_ahead : MethodName := ⟨RX10, "ahead", "(I)V"⟩
abbrev cX10_wrongJoined : ByteArray := prog_12_method_43_code
def yX10_wrongJoined : MethodName := ⟨RX10, "wrongJoined", "(I)I"⟩
abbrev cX10_join : ByteArray := prog_12_method_44_code
def yX10_join : MethodName := ⟨RX10, "join", "(I)I"⟩
abbrev cX10_kind : ByteArray := prog_12_method_45_code
def yX10_kind : MethodName := ⟨RX10, "kind", "(II)I"⟩
abbrev cX10_rounds : ByteArray := prog_12_method_46_code
def yX10_rounds : MethodName := ⟨RX10, "rounds", "()I"⟩
abbrev cX10_areRight : ByteArray := prog_12_method_47_code
def yX10_areRight : MethodName := ⟨RX10, "areRight", "(I)Z"⟩
abbrev cX10_put : ByteArray := prog_12_method_48_code
def yX10_put : MethodName := ⟨RX10, "put", "(J)V"⟩
abbrev cX10_take : ByteArray := prog_12_method_49_code
def yX10_take : MethodName := ⟨RX10, "take", "()J"⟩
abbrev cX10_putLong : ByteArray := prog_12_method_50_code
def yX10_putLong : MethodName := ⟨RX10, "putLong", "(J)V"⟩
abbrev cX10_takeLong : ByteArray := prog_12_method_51_code
def yX10_takeLong : MethodName := ⟨RX10, "takeLong", "()J"⟩
abbrev cX10_run : ByteArray := prog_12_method_52_code
def yX10_run : MethodName := ⟨RX10, "run", "(IIIII)I"⟩
abbrev cX10_after : ByteArray := prog_12_method_53_code
def yX10_after : MethodName := ⟨RX10, "after", "(I)I"⟩
abbrev cX10_arith : ByteArray := prog_12_method_54_code
def yX10_arith : MethodName := ⟨RX10, "arith", "(JII)I"⟩
abbrev cX10_arithLong : ByteArray := prog_12_method_55_code
def yX10_arithLong : MethodName := ⟨RX10, "arithLong", "(JJJ)J"⟩
abbrev cX10_works : ByteArray := prog_12_method_56_code
def yX10_works : MethodName := ⟨RX10, "works", "()I"⟩
abbrev cX10_simple : ByteArray := prog_12_method_57_code
def yX10_simple : MethodName := ⟨RX10, "simple", "(IJ)I"⟩
abbrev cX10_make : ByteArray := prog_12_method_58_code
def yX10_make : MethodName := ⟨RX10, "make", "(II)I"⟩
abbrev cX10_isOf : ByteArray := prog_12_method_59_code
def yX10_isOf : MethodName := ⟨RX10, "isOf", "(II)Z"⟩
abbrev cX10_worth : ByteArray := prog_12_method_60_code
def yX10_worth : MethodName := ⟨RX10, "worth", "(I)I"⟩
abbrev cX10_ofThings : ByteArray := prog_12_method_61_code
def yX10_ofThings : MethodName := ⟨RX10, "ofThings", "(IJ)I"⟩
abbrev cX10_others : ByteArray := prog_12_method_62_code
def yX10_others : MethodName := ⟨RX10, "others", "(IJ)I"⟩
abbrev cX10_calls : ByteArray := prog_12_method_63_code
def yX10_calls : MethodName := ⟨RX10, "calls", "(I)V"⟩
abbrev cX10_answer : ByteArray := prog_12_method_64_code
def yX10_answer : MethodName := ⟨RX10, "answer", "()I"⟩
abbrev cX10_told : ByteArray := prog_12_method_65_code
def yX10_told : MethodName := ⟨RX10, "told", "(I)I"⟩
abbrev cX10_count : ByteArray := prog_12_method_66_code
def yX10_count : MethodName := ⟨RX10, "count", "(II)I"⟩
def RJ10 : String := "java/lang/System"
def TJ10 : u_T := fun k => match k with
  | _ => ("", "", "", false)
def tyJ10 : Nat → FieldType := fun k => match k with
  | _ => .int
abbrev wsJ100 : List Cond := u_ws RJ10 TJ10 0
theorem nmJ10 : ∀ a, a < 0 → ∀ b, b < 0 → a ≠ b → (TJ10 a).2.1 ≠ (TJ10 b).2.1 := by decide +kernel
theorem tyJ10_ok : ∀ k, k < 0 → parseFieldDescriptor (TJ10 k).2.2.1 = some (tyJ10 k) := by decide +kernel
def RL : String := "KindJudgeLaw"
abbrev cL_law : ByteArray := code
def yL_law : MethodName := ⟨RL, "law", "([I)Z"⟩
abbrev vwCl : List vw_C := [(RX0, TX0, 12), (RX1, TX1, 5), (RX2, TX2, 6), (RX4, TX4, 14), (RX6, TX6, 2), (RX7, TX7, 2), (RX8, TX8, 3), (RX9, TX9, 3), (RX10, TX10, 35)]
/-- the words that a callee may count on -/
def gw : List Cond := lw_tbl.filter goodWord
theorem gw_at {w : Cond} (k : Nat) (h : lw_tbl[k]? = some w) (hg : goodWord w = true) : w ∈ gw := List.mem_filter.mpr ⟨List.mem_of_getElem? h, hg⟩
theorem gw_in {w : Cond} (h : w ∈ lw_tbl) (hg : goodWord w = true) : w ∈ gw := List.mem_filter.mpr ⟨h, hg⟩
theorem tb_1 {w : Cond} (h : w ∈ tables_1_1) : w ∈ lw_tbl := List.mem_append_right _ (List.mem_append_left _ h)
theorem tb_2 {w : Cond} (h : w ∈ tables_1_2) : w ∈ lw_tbl := List.mem_append_right _ (List.mem_append_right _ (List.mem_append_left _ h))
theorem tb_3 {w : Cond} (h : w ∈ tables_1_3) : w ∈ lw_tbl := List.mem_append_right _ (List.mem_append_right _ (List.mem_append_right _ (List.mem_append_left _ h)))
theorem tb_4 {w : Cond} (h : w ∈ tables_1_4) : w ∈ lw_tbl := List.mem_append_right _ (List.mem_append_right _ (List.mem_append_right _ (List.mem_append_right _ (List.mem_append_left _ h))))
theorem tb_5 {w : Cond} (h : w ∈ tables_1_5) : w ∈ lw_tbl := List.mem_append_right _ (List.mem_append_right _ (List.mem_append_right _ (List.mem_append_right _ (List.mem_append_right _ h))))
theorem gw_all {ws : List Cond} (ps : List Nat) (h : ws.map some = ps.map (fun i => lw_tbl[i]?)) (hg : ws.all goodWord = true) : ∀ w ∈ ws, w ∈ gw := by
  intro w hw
  have h1 : some w ∈ ws.map some := List.mem_map.mpr ⟨w, hw, rfl⟩
  rw [h] at h1
  obtain ⟨i, -, hi⟩ := List.mem_map.mp h1
  exact List.mem_filter.mpr ⟨List.mem_of_getElem? hi, List.all_eq_true.mp hg w hw⟩
theorem gw_tbl {w : Cond} (h : w ∈ gw) : w ∈ lw_tbl := (List.mem_filter.mp h).1
theorem gw_good {y : MethodName} {cc : ByteArray} {nL : Nat} {ret : Option FieldType} (hc : Cond.code y cc nL ret ∈ gw) : GoodIn gw (Cond.code y cc nL ret :: gw) := by
  intro w hw
  have hm : w ∈ gw := (List.mem_cons.mp hw).elim (fun e => by rw [e]; exact hc) id
  exact ⟨hm, good_of_word (List.mem_filter.mp hm).2⟩
theorem gX0 : ∀ w ∈ u_ws RX0 TX0 12, w ∈ gw := gw_all [315, 317, 319, 321, 323, 325, 327, 329, 331, 333, 335, 337] (by decide +kernel) (by decide +kernel)
theorem gX1 : ∀ w ∈ u_ws RX1 TX1 5, w ∈ gw := gw_all [200, 202, 204, 206, 208] (by decide +kernel) (by decide +kernel)
theorem gX2 : ∀ w ∈ u_ws RX2 TX2 6, w ∈ gw := gw_all [168, 170, 172, 174, 176, 178] (by decide +kernel) (by decide +kernel)
theorem gX3 : ∀ w ∈ u_ws RX3 TX3 0, w ∈ gw := gw_all [] (by decide +kernel) (by decide +kernel)
theorem gX4 : ∀ w ∈ u_ws RX4 TX4 14, w ∈ gw := gw_all [233, 235, 237, 239, 241, 243, 245, 247, 249, 251, 253, 255, 257, 259] (by decide +kernel) (by decide +kernel)
theorem gX5 : ∀ w ∈ u_ws RX5 TX5 0, w ∈ gw := gw_all [] (by decide +kernel) (by decide +kernel)
theorem gX6 : ∀ w ∈ u_ws RX6 TX6 2, w ∈ gw := gw_all [134, 136] (by decide +kernel) (by decide +kernel)
theorem gX7 : ∀ w ∈ u_ws RX7 TX7 2, w ∈ gw := gw_all [110, 112] (by decide +kernel) (by decide +kernel)
theorem gX8 : ∀ w ∈ u_ws RX8 TX8 3, w ∈ gw := gw_all [154, 156, 158] (by decide +kernel) (by decide +kernel)
theorem gX9 : ∀ w ∈ u_ws RX9 TX9 3, w ∈ gw := gw_all [266, 268, 270] (by decide +kernel) (by decide +kernel)
theorem gX10 : ∀ w ∈ u_ws RX10 TX10 35, w ∈ gw := gw_all [870, 872, 874, 876, 878, 880, 882, 884, 886, 888, 890, 892, 894, 896, 898, 900, 902, 904, 906, 908, 910, 912, 914, 916, 918, 920, 922, 924, 926, 928, 930, 932, 934, 936, 938] (by decide +kernel) (by decide +kernel)
def mNest : List (String × Nat × MethodName × String) := [(RX9, 9, yX7_init, "KindJudge"), (RX2, 19, yX6_init, "KindJudge"), (RX2, 26, yX8_init, "KindJudge"), (RX8, 9, yX6_init, "KindJudge"), (RX9, 25, yX4_init, "KindJudge"), (RX4, 13, yX1_init, "KindJudge"), (RX0, 54, yX6_init, "KindJudge")]
theorem mNest_in : ∀ q ∈ mNest, Cond.methodLinkNest q.1 q.2.1 q.2.2.1 q.2.2.2 ∈ lw_tbl := List.forall_mem_cons.mpr ⟨List.mem_of_getElem? (i := 101) (by decide +kernel), (List.forall_mem_cons.mpr ⟨List.mem_of_getElem? (i := 124) (by decide +kernel), (List.forall_mem_cons.mpr ⟨List.mem_of_getElem? (i := 142) (by decide +kernel), (List.forall_mem_cons.mpr ⟨List.mem_of_getElem? (i := 147) (by decide +kernel), (List.forall_mem_cons.mpr ⟨List.mem_of_getElem? (i := 183) (by decide +kernel), (List.forall_mem_cons.mpr ⟨List.mem_of_getElem? (i := 189) (by decide +kernel), (List.forall_mem_cons.mpr ⟨List.mem_of_getElem? (i := 368) (by decide +kernel), (fun _ h => absurd h List.not_mem_nil)⟩)⟩)⟩)⟩)⟩)⟩)⟩
theorem ao_X0 : Cond.arrayOver (.object RX0) ∈ lw_tbl := List.mem_of_getElem? (i := 106) (by decide +kernel)
theorem ao_X6 : Cond.arrayOver (.object RX6) ∈ lw_tbl := List.mem_of_getElem? (i := 122) (by decide +kernel)
end
section
theorem ini_L : Cond.initialized RL ∈ gw := gw_at 79 (by decide +kernel) rfl
theorem ini_X9 : Cond.initialized RX9 ∈ gw := gw_at 80 (by decide +kernel) rfl
theorem ini_X7 : Cond.initialized RX7 ∈ gw := gw_at 81 (by decide +kernel) rfl
theorem ini_X2 : Cond.initialized RX2 ∈ gw := gw_at 82 (by decide +kernel) rfl
theorem ini_X6 : Cond.initialized RX6 ∈ gw := gw_at 83 (by decide +kernel) rfl
theorem ini_X8 : Cond.initialized RX8 ∈ gw := gw_at 84 (by decide +kernel) rfl
theorem ini_X4 : Cond.initialized RX4 ∈ gw := gw_at 85 (by decide +kernel) rfl
theorem ini_X1 : Cond.initialized RX1 ∈ gw := gw_at 86 (by decide +kernel) rfl
theorem ini_X10 : Cond.initialized RX10 ∈ gw := gw_at 87 (by decide +kernel) rfl
theorem ini_X0 : Cond.initialized RX0 ∈ gw := gw_at 88 (by decide +kernel) rfl
theorem ini_X3 : Cond.initialized RX3 ∈ gw := gw_at 89 (by decide +kernel) rfl
theorem ini_J10 : Cond.initialized RJ10 ∈ gw := gw_at 90 (by decide +kernel) rfl
theorem cl_L_7 : Cond.classLink RL 7 RX9 ∈ gw := gw_at 91 (by decide +kernel) rfl
theorem ins_X9 : Cond.instantiable RX9 3 ∈ gw := gw_at 92 (by decide +kernel) rfl
theorem ml_L_9 : Cond.methodLink RL 9 yX9_init ∈ gw := gw_at 93 (by decide +kernel) rfl
theorem im_X9_init : Cond.instanceMethod yX9_init ∈ gw := gw_at 94 (by decide +kernel) rfl
theorem cd_X9_init : Cond.code yX9_init cX9_init 1 none ∈ gw := gw_in (tb_1 (List.mem_of_getElem? (i := 16) rfl)) rfl
theorem ml_X9_1 : Cond.methodLink RX9 1 objectInit ∈ gw := gw_at 96 (by decide +kernel) rfl
theorem im_objectInit : Cond.instanceMethod objectInit ∈ gw := gw_at 97 (by decide +kernel) rfl
theorem cd_objectInit : Cond.code objectInit ⟨#[0xb1]⟩ 1 none ∈ gw := gw_in (tb_1 (List.mem_of_getElem? (i := 19) rfl)) rfl
theorem cl_X9_7 : Cond.classLink RX9 7 RX7 ∈ gw := gw_at 99 (by decide +kernel) rfl
theorem ins_X7 : Cond.instantiable RX7 2 ∈ gw := gw_at 100 (by decide +kernel) rfl
theorem im_X7_init : Cond.instanceMethod yX7_init ∈ gw := gw_at 102 (by decide +kernel) rfl
theorem cd_X7_init : Cond.code yX7_init cX7_init 1 none ∈ gw := gw_in (tb_1 (List.mem_of_getElem? (i := 24) rfl)) rfl
theorem ml_X7_3 : Cond.methodLink RX7 3 objectInit ∈ gw := gw_at 104 (by decide +kernel) rfl
theorem cl_X7_11 : Cond.classLink RX7 11 RX0 ∈ gw := gw_at 105 (by decide +kernel) rfl
theorem fl_X7_13 : Cond.fieldLink RX7 13 "KindJudge$Program" "codes" "[LKindJudge$Code;" ∈ gw := gw_at 107 (by decide +kernel) rfl
theorem fl_X7_17 : Cond.fieldLink RX7 17 "KindJudge$Program" "size" "I" ∈ gw := gw_at 108 (by decide +kernel) rfl
theorem fl_X9_135 : Cond.fieldLink RX9 135 "KindJudge$Program" "size" "I" ∈ gw := gw_at 109 (by decide +kernel) rfl
theorem cl_X9_16 : Cond.classLink RX9 16 RX2 ∈ gw := gw_at 115 (by decide +kernel) rfl
theorem ins_X2 : Cond.instantiable RX2 6 ∈ gw := gw_at 116 (by decide +kernel) rfl
theorem ml_X9_18 : Cond.methodLink RX9 18 yX2_init ∈ gw := gw_at 117 (by decide +kernel) rfl
theorem im_X2_init : Cond.instanceMethod yX2_init ∈ gw := gw_at 118 (by decide +kernel) rfl
theorem cd_X2_init : Cond.code yX2_init cX2_init 2 none ∈ gw := gw_in (tb_1 (List.mem_of_getElem? (i := 40) rfl)) rfl
theorem ml_X2_3 : Cond.methodLink RX2 3 objectInit ∈ gw := gw_at 120 (by decide +kernel) rfl
theorem cl_X2_11 : Cond.classLink RX2 11 RX6 ∈ gw := gw_at 121 (by decide +kernel) rfl
theorem ins_X6 : Cond.instantiable RX6 2 ∈ gw := gw_at 123 (by decide +kernel) rfl
theorem im_X6_init : Cond.instanceMethod yX6_init ∈ gw := gw_at 125 (by decide +kernel) rfl
theorem cd_X6_init : Cond.code yX6_init cX6_init 1 none ∈ gw := gw_in (tb_1 (List.mem_of_getElem? (i := 47) rfl)) rfl
theorem ml_X6_1 : Cond.methodLink RX6 1 objectInit ∈ gw := gw_at 127 (by decide +kernel) rfl
theorem fl_X6_9 : Cond.fieldLink RX6 9 "KindJudge$Places" "kinds" "[I" ∈ gw := gw_at 128 (by decide +kernel) rfl
theorem fl_X2_40 : Cond.fieldLink RX2 40 "KindJudge$Places" "kinds" "[I" ∈ gw := gw_at 129 (by decide +kernel) rfl
theorem fl_X8_83 : Cond.fieldLink RX8 83 "KindJudge$Places" "kinds" "[I" ∈ gw := gw_at 130 (by decide +kernel) rfl
theorem fl_X6_13 : Cond.fieldLink RX6 13 "KindJudge$Places" "depth" "I" ∈ gw := gw_at 131 (by decide +kernel) rfl
theorem fl_X2_47 : Cond.fieldLink RX2 47 "KindJudge$Places" "depth" "I" ∈ gw := gw_at 132 (by decide +kernel) rfl
theorem fl_X0_59 : Cond.fieldLink RX0 59 "KindJudge$Places" "depth" "I" ∈ gw := gw_at 133 (by decide +kernel) rfl
theorem ac_int : Cond.arrayClass .int ∈ gw := gw_at 139 (by decide +kernel) rfl
theorem cl_X2_24 : Cond.classLink RX2 24 RX8 ∈ gw := gw_at 140 (by decide +kernel) rfl
theorem ins_X8 : Cond.instantiable RX8 3 ∈ gw := gw_at 141 (by decide +kernel) rfl
theorem im_X8_init : Cond.instanceMethod yX8_init ∈ gw := gw_at 143 (by decide +kernel) rfl
theorem cd_X8_init : Cond.code yX8_init cX8_init 1 none ∈ gw := gw_in (tb_1 (List.mem_of_getElem? (i := 65) rfl)) rfl
theorem ml_X8_1 : Cond.methodLink RX8 1 objectInit ∈ gw := gw_at 145 (by decide +kernel) rfl
theorem cl_X8_7 : Cond.classLink RX8 7 RX6 ∈ gw := gw_at 146 (by decide +kernel) rfl
theorem fl_X8_10 : Cond.fieldLink RX8 10 "KindJudge$Step" "now" "LKindJudge$Places;" ∈ gw := gw_at 148 (by decide +kernel) rfl
theorem fl_X2_54 : Cond.fieldLink RX2 54 "KindJudge$Step" "now" "LKindJudge$Places;" ∈ gw := gw_at 149 (by decide +kernel) rfl
theorem fl_X8_30 : Cond.fieldLink RX8 30 "KindJudge$Step" "leads" "I" ∈ gw := gw_at 150 (by decide +kernel) rfl
theorem fl_X2_92 : Cond.fieldLink RX2 92 "KindJudge$Step" "leads" "I" ∈ gw := gw_at 151 (by decide +kernel) rfl
theorem fl_X8_36 : Cond.fieldLink RX8 36 "KindJudge$Step" "falls" "Z" ∈ gw := gw_at 152 (by decide +kernel) rfl
theorem fl_X2_88 : Cond.fieldLink RX2 88 "KindJudge$Step" "falls" "Z" ∈ gw := gw_at 153 (by decide +kernel) rfl
theorem fl_X2_13 : Cond.fieldLink RX2 13 "KindJudge$Judging" "ahead" "[LKindJudge$Places;" ∈ gw := gw_at 161 (by decide +kernel) rfl
theorem fl_X2_20 : Cond.fieldLink RX2 20 "KindJudge$Judging" "caught" "LKindJudge$Places;" ∈ gw := gw_at 162 (by decide +kernel) rfl
theorem fl_X2_27 : Cond.fieldLink RX2 27 "KindJudge$Judging" "step" "LKindJudge$Step;" ∈ gw := gw_at 163 (by decide +kernel) rfl
theorem fl_X2_31 : Cond.fieldLink RX2 31 "KindJudge$Judging" "judgedSize" "I" ∈ gw := gw_at 164 (by decide +kernel) rfl
theorem fl_X2_119 : Cond.fieldLink RX2 119 "KindJudge$Judging" "changed" "Z" ∈ gw := gw_at 165 (by decide +kernel) rfl
theorem fl_X2_112 : Cond.fieldLink RX2 112 "KindJudge$Judging" "roundsGone" "I" ∈ gw := gw_at 166 (by decide +kernel) rfl
theorem fl_X9_85 : Cond.fieldLink RX9 85 "KindJudge$Judging" "roundsGone" "I" ∈ gw := gw_at 167 (by decide +kernel) rfl
theorem cl_X9_23 : Cond.classLink RX9 23 RX4 ∈ gw := gw_at 181 (by decide +kernel) rfl
theorem ins_X4 : Cond.instantiable RX4 14 ∈ gw := gw_at 182 (by decide +kernel) rfl
theorem im_X4_init : Cond.instanceMethod yX4_init ∈ gw := gw_at 184 (by decide +kernel) rfl
theorem cd_X4_init : Cond.code yX4_init cX4_init 1 none ∈ gw := gw_in (tb_1 (List.mem_of_getElem? (i := 106) rfl)) rfl
theorem ml_X4_5 : Cond.methodLink RX4 5 objectInit ∈ gw := gw_at 186 (by decide +kernel) rfl
theorem cl_X4_11 : Cond.classLink RX4 11 RX1 ∈ gw := gw_at 187 (by decide +kernel) rfl
theorem ins_X1 : Cond.instantiable RX1 5 ∈ gw := gw_at 188 (by decide +kernel) rfl
theorem im_X1_init : Cond.instanceMethod yX1_init ∈ gw := gw_at 190 (by decide +kernel) rfl
theorem cd_X1_init : Cond.code yX1_init cX1_init 1 none ∈ gw := gw_in (tb_1 (List.mem_of_getElem? (i := 112) rfl)) rfl
theorem ml_X1_1 : Cond.methodLink RX1 1 objectInit ∈ gw := gw_at 192 (by decide +kernel) rfl
theorem fl_X1_9 : Cond.fieldLink RX1 9 "KindJudge$Heap" "kinds" "[I" ∈ gw := gw_at 193 (by decide +kernel) rfl
theorem fl_X1_13 : Cond.fieldLink RX1 13 "KindJudge$Heap" "lengths" "[I" ∈ gw := gw_at 194 (by decide +kernel) rfl
theorem fl_X1_16 : Cond.fieldLink RX1 16 "KindJudge$Heap" "fields" "[I" ∈ gw := gw_at 195 (by decide +kernel) rfl
theorem fl_X1_19 : Cond.fieldLink RX1 19 "KindJudge$Heap" "items" "[I" ∈ gw := gw_at 196 (by decide +kernel) rfl
theorem fl_X1_22 : Cond.fieldLink RX1 22 "KindJudge$Heap" "made" "I" ∈ gw := gw_at 197 (by decide +kernel) rfl
theorem fl_X4_57 : Cond.fieldLink RX4 57 "KindJudge$Heap" "made" "I" ∈ gw := gw_at 198 (by decide +kernel) rfl
theorem fl_X9_124 : Cond.fieldLink RX9 124 "KindJudge$Heap" "made" "I" ∈ gw := gw_at 199 (by decide +kernel) rfl
theorem cl_X4_20 : Cond.classLink RX4 20 RX0 ∈ gw := gw_at 211 (by decide +kernel) rfl
theorem ki_X4_42 : Cond.constant RX4 42 (-99999999) ∈ gw := gw_at 212 (by decide +kernel) rfl
theorem fl_X4_14 : Cond.fieldLink RX4 14 "KindJudge$Machine" "heap" "LKindJudge$Heap;" ∈ gw := gw_at 213 (by decide +kernel) rfl
theorem fl_X9_120 : Cond.fieldLink RX9 120 "KindJudge$Machine" "heap" "LKindJudge$Heap;" ∈ gw := gw_at 214 (by decide +kernel) rfl
theorem fl_X4_22 : Cond.fieldLink RX4 22 "KindJudge$Machine" "codes" "[LKindJudge$Code;" ∈ gw := gw_at 215 (by decide +kernel) rfl
theorem fl_X4_26 : Cond.fieldLink RX4 26 "KindJudge$Machine" "ats" "[I" ∈ gw := gw_at 216 (by decide +kernel) rfl
theorem fl_X4_30 : Cond.fieldLink RX4 30 "KindJudge$Machine" "depths" "[I" ∈ gw := gw_at 217 (by decide +kernel) rfl
theorem fl_X4_35 : Cond.fieldLink RX4 35 "KindJudge$Machine" "locals" "[J" ∈ gw := gw_at 218 (by decide +kernel) rfl
theorem fl_X4_39 : Cond.fieldLink RX4 39 "KindJudge$Machine" "stack" "[J" ∈ gw := gw_at 219 (by decide +kernel) rfl
theorem fl_X4_50 : Cond.fieldLink RX4 50 "KindJudge$Machine" "level" "I" ∈ gw := gw_at 220 (by decide +kernel) rfl
theorem fl_X4_60 : Cond.fieldLink RX4 60 "KindJudge$Machine" "outcome" "I" ∈ gw := gw_at 221 (by decide +kernel) rfl
theorem fl_X4_97 : Cond.fieldLink RX4 97 "KindJudge$Machine" "ownFailure" "I" ∈ gw := gw_at 222 (by decide +kernel) rfl
theorem fl_X4_63 : Cond.fieldLink RX4 63 "KindJudge$Machine" "result" "I" ∈ gw := gw_at 223 (by decide +kernel) rfl
theorem fl_X9_111 : Cond.fieldLink RX9 111 "KindJudge$Machine" "result" "I" ∈ gw := gw_at 224 (by decide +kernel) rfl
theorem fl_X4_66 : Cond.fieldLink RX4 66 "KindJudge$Machine" "done" "I" ∈ gw := gw_at 225 (by decide +kernel) rfl
theorem fl_X9_114 : Cond.fieldLink RX9 114 "KindJudge$Machine" "done" "I" ∈ gw := gw_at 226 (by decide +kernel) rfl
theorem fl_X4_69 : Cond.fieldLink RX4 69 "KindJudge$Machine" "failures" "I" ∈ gw := gw_at 227 (by decide +kernel) rfl
theorem fl_X9_117 : Cond.fieldLink RX9 117 "KindJudge$Machine" "failures" "I" ∈ gw := gw_at 228 (by decide +kernel) rfl
theorem fl_X4_43 : Cond.fieldLink RX4 43 "KindJudge$Machine" "failMethod" "I" ∈ gw := gw_at 229 (by decide +kernel) rfl
theorem fl_X9_129 : Cond.fieldLink RX9 129 "KindJudge$Machine" "failMethod" "I" ∈ gw := gw_at 230 (by decide +kernel) rfl
theorem fl_X4_47 : Cond.fieldLink RX4 47 "KindJudge$Machine" "failAt" "I" ∈ gw := gw_at 231 (by decide +kernel) rfl
theorem fl_X9_132 : Cond.fieldLink RX9 132 "KindJudge$Machine" "failAt" "I" ∈ gw := gw_at 232 (by decide +kernel) rfl
theorem ac_long : Cond.arrayClass .long ∈ gw := gw_at 262 (by decide +kernel) rfl
theorem fl_X9_10 : Cond.fieldLink RX9 10 "KindJudge" "program" "LKindJudge$Program;" ∈ gw := gw_at 263 (by decide +kernel) rfl
theorem fl_X9_19 : Cond.fieldLink RX9 19 "KindJudge" "judging" "LKindJudge$Judging;" ∈ gw := gw_at 264 (by decide +kernel) rfl
theorem fl_X9_26 : Cond.fieldLink RX9 26 "KindJudge" "machine" "LKindJudge$Machine;" ∈ gw := gw_at 265 (by decide +kernel) rfl
theorem ml_L_13 : Cond.methodLink RL 13 yX9_method ∈ gw := gw_at 273 (by decide +kernel) rfl
theorem im_X9_method : Cond.instanceMethod yX9_method ∈ gw := gw_at 274 (by decide +kernel) rfl
theorem se_X9_method : Cond.selects RX9 yX9_method yX9_method ∈ gw := gw_at 275 (by decide +kernel) rfl
theorem cd_X9_method : Cond.code yX9_method cX9_method 2 (some .int) ∈ gw := gw_in (tb_1 (List.mem_of_getElem? (i := 197) rfl)) rfl
theorem ml_X9_30 : Cond.methodLink RX9 30 yX7_add ∈ gw := gw_at 277 (by decide +kernel) rfl
theorem im_X7_add : Cond.instanceMethod yX7_add ∈ gw := gw_at 278 (by decide +kernel) rfl
theorem se_X7_add : Cond.selects RX7 yX7_add yX7_add ∈ gw := gw_at 279 (by decide +kernel) rfl
theorem cd_X7_add : Cond.code yX7_add cX7_add 2 (some .int) ∈ gw := gw_in (tb_1 (List.mem_of_getElem? (i := 201) rfl)) rfl
theorem ins_X0 : Cond.instantiable RX0 12 ∈ gw := gw_at 281 (by decide +kernel) rfl
theorem ml_X7_21 : Cond.methodLink RX7 21 yX0_init ∈ gw := gw_at 282 (by decide +kernel) rfl
theorem im_X0_init : Cond.instanceMethod yX0_init ∈ gw := gw_at 283 (by decide +kernel) rfl
theorem cd_X0_init : Cond.code yX0_init cX0_init 3 none ∈ gw := gw_in (tb_1 (List.mem_of_getElem? (i := 205) rfl)) rfl
theorem ml_X0_3 : Cond.methodLink RX0 3 objectInit ∈ gw := gw_at 285 (by decide +kernel) rfl
theorem cl_X0_31 : Cond.classLink RX0 31 RX6 ∈ gw := gw_at 286 (by decide +kernel) rfl
theorem fl_X0_37 : Cond.fieldLink RX0 37 "KindJudge$Code" "number" "I" ∈ gw := gw_at 287 (by decide +kernel) rfl
theorem fl_X4_94 : Cond.fieldLink RX4 94 "KindJudge$Code" "number" "I" ∈ gw := gw_at 288 (by decide +kernel) rfl
theorem fl_X8_142 : Cond.fieldLink RX8 142 "KindJudge$Code" "number" "I" ∈ gw := gw_at 289 (by decide +kernel) rfl
theorem fl_X0_41 : Cond.fieldLink RX0 41 "KindJudge$Code" "params" "I" ∈ gw := gw_at 290 (by decide +kernel) rfl
theorem fl_X2_57 : Cond.fieldLink RX2 57 "KindJudge$Code" "params" "I" ∈ gw := gw_at 291 (by decide +kernel) rfl
theorem fl_X8_151 : Cond.fieldLink RX8 151 "KindJudge$Code" "params" "I" ∈ gw := gw_at 292 (by decide +kernel) rfl
theorem fl_X4_226 : Cond.fieldLink RX4 226 "KindJudge$Code" "params" "I" ∈ gw := gw_at 293 (by decide +kernel) rfl
theorem fl_X0_11 : Cond.fieldLink RX0 11 "KindJudge$Code" "ops" "[I" ∈ gw := gw_at 294 (by decide +kernel) rfl
theorem fl_X8_22 : Cond.fieldLink RX8 22 "KindJudge$Code" "ops" "[I" ∈ gw := gw_at 295 (by decide +kernel) rfl
theorem fl_X4_80 : Cond.fieldLink RX4 80 "KindJudge$Code" "ops" "[I" ∈ gw := gw_at 296 (by decide +kernel) rfl
theorem fl_X0_15 : Cond.fieldLink RX0 15 "KindJudge$Code" "args" "[J" ∈ gw := gw_at 297 (by decide +kernel) rfl
theorem fl_X8_26 : Cond.fieldLink RX8 26 "KindJudge$Code" "args" "[J" ∈ gw := gw_at 298 (by decide +kernel) rfl
theorem fl_X4_83 : Cond.fieldLink RX4 83 "KindJudge$Code" "args" "[J" ∈ gw := gw_at 299 (by decide +kernel) rfl
theorem fl_X0_44 : Cond.fieldLink RX0 44 "KindJudge$Code" "size" "I" ∈ gw := gw_at 300 (by decide +kernel) rfl
theorem fl_X2_44 : Cond.fieldLink RX2 44 "KindJudge$Code" "size" "I" ∈ gw := gw_at 301 (by decide +kernel) rfl
theorem fl_X9_138 : Cond.fieldLink RX9 138 "KindJudge$Code" "size" "I" ∈ gw := gw_at 302 (by decide +kernel) rfl
theorem fl_X0_19 : Cond.fieldLink RX0 19 "KindJudge$Code" "froms" "[I" ∈ gw := gw_at 303 (by decide +kernel) rfl
theorem fl_X0_22 : Cond.fieldLink RX0 22 "KindJudge$Code" "tos" "[I" ∈ gw := gw_at 304 (by decide +kernel) rfl
theorem fl_X0_25 : Cond.fieldLink RX0 25 "KindJudge$Code" "ats" "[I" ∈ gw := gw_at 305 (by decide +kernel) rfl
theorem fl_X2_105 : Cond.fieldLink RX2 105 "KindJudge$Code" "ats" "[I" ∈ gw := gw_at 306 (by decide +kernel) rfl
theorem fl_X0_28 : Cond.fieldLink RX0 28 "KindJudge$Code" "whats" "[I" ∈ gw := gw_at 307 (by decide +kernel) rfl
theorem fl_X0_51 : Cond.fieldLink RX0 51 "KindJudge$Code" "handlers" "I" ∈ gw := gw_at 308 (by decide +kernel) rfl
theorem fl_X2_98 : Cond.fieldLink RX2 98 "KindJudge$Code" "handlers" "I" ∈ gw := gw_at 309 (by decide +kernel) rfl
theorem fl_X9_139 : Cond.fieldLink RX9 139 "KindJudge$Code" "handlers" "I" ∈ gw := gw_at 310 (by decide +kernel) rfl
theorem fl_X0_33 : Cond.fieldLink RX0 33 "KindJudge$Code" "frames" "[LKindJudge$Places;" ∈ gw := gw_at 311 (by decide +kernel) rfl
theorem fl_X0_47 : Cond.fieldLink RX0 47 "KindJudge$Code" "right" "Z" ∈ gw := gw_at 312 (by decide +kernel) rfl
theorem fl_X7_24 : Cond.fieldLink RX7 24 "KindJudge$Code" "right" "Z" ∈ gw := gw_at 313 (by decide +kernel) rfl
theorem fl_X9_67 : Cond.fieldLink RX9 67 "KindJudge$Code" "right" "Z" ∈ gw := gw_at 314 (by decide +kernel) rfl
theorem ml_L_20 : Cond.methodLink RL 20 yX9_op ∈ gw := gw_at 340 (by decide +kernel) rfl
theorem im_X9_op : Cond.instanceMethod yX9_op ∈ gw := gw_at 341 (by decide +kernel) rfl
theorem se_X9_op : Cond.selects RX9 yX9_op yX9_op ∈ gw := gw_at 342 (by decide +kernel) rfl
theorem cd_X9_op : Cond.code yX9_op cX9_op 6 (some .int) ∈ gw := gw_in (tb_2 (List.mem_of_getElem? (i := 24) rfl)) rfl
theorem ml_X9_34 : Cond.methodLink RX9 34 yX7_at ∈ gw := gw_at 344 (by decide +kernel) rfl
theorem im_X7_at : Cond.instanceMethod yX7_at ∈ gw := gw_at 345 (by decide +kernel) rfl
theorem se_X7_at : Cond.selects RX7 yX7_at yX7_at ∈ gw := gw_at 346 (by decide +kernel) rfl
theorem cd_X7_at : Cond.code yX7_at cX7_at 3 (some (.object "KindJudge$Code")) ∈ gw := gw_in (tb_2 (List.mem_of_getElem? (i := 28) rfl)) rfl
theorem ml_X9_38 : Cond.methodLink RX9 38 yX0_addInstruction ∈ gw := gw_at 348 (by decide +kernel) rfl
theorem im_X0_addInstruction : Cond.instanceMethod yX0_addInstruction ∈ gw := gw_at 349 (by decide +kernel) rfl
theorem se_X0_addInstruction : Cond.selects RX0 yX0_addInstruction yX0_addInstruction ∈ gw := gw_at 350 (by decide +kernel) rfl
theorem cd_X0_addInstruction : Cond.code yX0_addInstruction cX0_addInstruction 4 (some .int) ∈ gw := gw_in (tb_2 (List.mem_of_getElem? (i := 32) rfl)) rfl
theorem ml_L_25 : Cond.methodLink RL 25 yX9_handler ∈ gw := gw_at 352 (by decide +kernel) rfl
theorem im_X9_handler : Cond.instanceMethod yX9_handler ∈ gw := gw_at 353 (by decide +kernel) rfl
theorem se_X9_handler : Cond.selects RX9 yX9_handler yX9_handler ∈ gw := gw_at 354 (by decide +kernel) rfl
theorem cd_X9_handler : Cond.code yX9_handler cX9_handler 7 (some .int) ∈ gw := gw_in (tb_2 (List.mem_of_getElem? (i := 36) rfl)) rfl
theorem ml_X9_44 : Cond.methodLink RX9 44 yX0_addHandler ∈ gw := gw_at 356 (by decide +kernel) rfl
theorem im_X0_addHandler : Cond.instanceMethod yX0_addHandler ∈ gw := gw_at 357 (by decide +kernel) rfl
theorem se_X0_addHandler : Cond.selects RX0 yX0_addHandler yX0_addHandler ∈ gw := gw_at 358 (by decide +kernel) rfl
theorem cd_X0_addHandler : Cond.code yX0_addHandler cX0_addHandler 5 (some .int) ∈ gw := gw_in (tb_2 (List.mem_of_getElem? (i := 40) rfl)) rfl
theorem ml_L_30 : Cond.methodLink RL 30 yX9_frame ∈ gw := gw_at 360 (by decide +kernel) rfl
theorem im_X9_frame : Cond.instanceMethod yX9_frame ∈ gw := gw_at 361 (by decide +kernel) rfl
theorem se_X9_frame : Cond.selects RX9 yX9_frame yX9_frame ∈ gw := gw_at 362 (by decide +kernel) rfl
theorem cd_X9_frame : Cond.code yX9_frame cX9_frame 5 (some .int) ∈ gw := gw_in (tb_2 (List.mem_of_getElem? (i := 44) rfl)) rfl
theorem ml_X9_50 : Cond.methodLink RX9 50 yX0_putFrame ∈ gw := gw_at 364 (by decide +kernel) rfl
theorem im_X0_putFrame : Cond.instanceMethod yX0_putFrame ∈ gw := gw_at 365 (by decide +kernel) rfl
theorem se_X0_putFrame : Cond.selects RX0 yX0_putFrame yX0_putFrame ∈ gw := gw_at 366 (by decide +kernel) rfl
theorem cd_X0_putFrame : Cond.code yX0_putFrame cX0_putFrame 3 none ∈ gw := gw_in (tb_2 (List.mem_of_getElem? (i := 48) rfl)) rfl
theorem ml_X0_55 : Cond.methodLink RX0 55 yX6_clear ∈ gw := gw_at 369 (by decide +kernel) rfl
theorem im_X6_clear : Cond.instanceMethod yX6_clear ∈ gw := gw_at 370 (by decide +kernel) rfl
theorem se_X6_clear : Cond.selects RX6 yX6_clear yX6_clear ∈ gw := gw_at 371 (by decide +kernel) rfl
theorem cd_X6_clear : Cond.code yX6_clear cX6_clear 3 none ∈ gw := gw_in (tb_2 (List.mem_of_getElem? (i := 53) rfl)) rfl
theorem ml_L_35 : Cond.methodLink RL 35 yX9_set ∈ gw := gw_at 373 (by decide +kernel) rfl
theorem im_X9_set : Cond.instanceMethod yX9_set ∈ gw := gw_at 374 (by decide +kernel) rfl
theorem se_X9_set : Cond.selects RX9 yX9_set yX9_set ∈ gw := gw_at 375 (by decide +kernel) rfl
theorem cd_X9_set : Cond.code yX9_set cX9_set 7 (some .int) ∈ gw := gw_in (tb_2 (List.mem_of_getElem? (i := 57) rfl)) rfl
theorem ml_X9_54 : Cond.methodLink RX9 54 yX0_frameOf ∈ gw := gw_at 377 (by decide +kernel) rfl
theorem im_X0_frameOf : Cond.instanceMethod yX0_frameOf ∈ gw := gw_at 378 (by decide +kernel) rfl
theorem se_X0_frameOf : Cond.selects RX0 yX0_frameOf yX0_frameOf ∈ gw := gw_at 379 (by decide +kernel) rfl
theorem cd_X0_frameOf : Cond.code yX0_frameOf cX0_frameOf 3 (some (.object "KindJudge$Places")) ∈ gw := gw_in (tb_2 (List.mem_of_getElem? (i := 61) rfl)) rfl
theorem ml_X9_58 : Cond.methodLink RX9 58 yX6_has ∈ gw := gw_at 381 (by decide +kernel) rfl
theorem im_X6_has : Cond.instanceMethod yX6_has ∈ gw := gw_at 382 (by decide +kernel) rfl
theorem se_X6_has : Cond.selects RX6 yX6_has yX6_has ∈ gw := gw_at 383 (by decide +kernel) rfl
theorem cd_X6_has : Cond.code yX6_has cX6_has 2 (some .boolean) ∈ gw := gw_in (tb_2 (List.mem_of_getElem? (i := 65) rfl)) rfl
theorem ml_X9_62 : Cond.methodLink RX9 62 yX3_isKind ∈ gw := gw_at 385 (by decide +kernel) rfl
theorem st_X3_isKind : Cond.static yX3_isKind ∈ gw := gw_at 386 (by decide +kernel) rfl
theorem cd_X3_isKind : Cond.code yX3_isKind cX3_isKind 1 (some .boolean) ∈ gw := gw_in (tb_2 (List.mem_of_getElem? (i := 68) rfl)) rfl
theorem ml_X3_15 : Cond.methodLink RX3 15 yX3_isObject ∈ gw := gw_at 388 (by decide +kernel) rfl
theorem st_X3_isObject : Cond.static yX3_isObject ∈ gw := gw_at 389 (by decide +kernel) rfl
theorem cd_X3_isObject : Cond.code yX3_isObject cX3_isObject 1 (some .boolean) ∈ gw := gw_in (tb_2 (List.mem_of_getElem? (i := 71) rfl)) rfl
theorem ml_X3_19 : Cond.methodLink RX3 19 yX3_isRow ∈ gw := gw_at 391 (by decide +kernel) rfl
theorem st_X3_isRow : Cond.static yX3_isRow ∈ gw := gw_at 392 (by decide +kernel) rfl
theorem cd_X3_isRow : Cond.code yX3_isRow cX3_isRow 1 (some .boolean) ∈ gw := gw_in (tb_2 (List.mem_of_getElem? (i := 74) rfl)) rfl
theorem ml_X3_22 : Cond.methodLink RX3 22 yX3_isUnmade ∈ gw := gw_at 394 (by decide +kernel) rfl
theorem st_X3_isUnmade : Cond.static yX3_isUnmade ∈ gw := gw_at 395 (by decide +kernel) rfl
theorem cd_X3_isUnmade : Cond.code yX3_isUnmade cX3_isUnmade 1 (some .boolean) ∈ gw := gw_in (tb_2 (List.mem_of_getElem? (i := 77) rfl)) rfl
theorem ml_X9_71 : Cond.methodLink RX9 71 yX6_exchange ∈ gw := gw_at 397 (by decide +kernel) rfl
theorem im_X6_exchange : Cond.instanceMethod yX6_exchange ∈ gw := gw_at 398 (by decide +kernel) rfl
theorem se_X6_exchange : Cond.selects RX6 yX6_exchange yX6_exchange ∈ gw := gw_at 399 (by decide +kernel) rfl
theorem cd_X6_exchange : Cond.code yX6_exchange cX6_exchange 4 (some .int) ∈ gw := gw_in (tb_2 (List.mem_of_getElem? (i := 81) rfl)) rfl
theorem ml_X6_29 : Cond.methodLink RX6 29 yX6_has ∈ gw := gw_at 401 (by decide +kernel) rfl
theorem ml_L_40 : Cond.methodLink RL 40 yX9_judge ∈ gw := gw_at 402 (by decide +kernel) rfl
theorem im_X9_judge : Cond.instanceMethod yX9_judge ∈ gw := gw_at 403 (by decide +kernel) rfl
theorem se_X9_judge : Cond.selects RX9 yX9_judge yX9_judge ∈ gw := gw_at 404 (by decide +kernel) rfl
theorem cd_X9_judge : Cond.code yX9_judge cX9_judge 4 (some .int) ∈ gw := gw_in (tb_2 (List.mem_of_getElem? (i := 86) rfl)) rfl
theorem ml_X9_75 : Cond.methodLink RX9 75 yX2_byFrames ∈ gw := gw_at 406 (by decide +kernel) rfl
theorem im_X2_byFrames : Cond.instanceMethod yX2_byFrames ∈ gw := gw_at 407 (by decide +kernel) rfl
theorem se_X2_byFrames : Cond.selects RX2 yX2_byFrames yX2_byFrames ∈ gw := gw_at 408 (by decide +kernel) rfl
theorem cd_X2_byFrames : Cond.code yX2_byFrames cX2_byFrames 7 (some .int) ∈ gw := gw_in (tb_2 (List.mem_of_getElem? (i := 90) rfl)) rfl
theorem ml_X2_50 : Cond.methodLink RX2 50 yX2_forget ∈ gw := gw_at 410 (by decide +kernel) rfl
theorem im_X2_forget : Cond.instanceMethod yX2_forget ∈ gw := gw_at 412 (by decide +kernel) rfl
theorem cd_X2_forget : Cond.code yX2_forget cX2_forget 3 none ∈ gw := gw_in (tb_2 (List.mem_of_getElem? (i := 94) rfl)) rfl
theorem ml_X2_60 : Cond.methodLink RX2 60 yX6_begin ∈ gw := gw_at 414 (by decide +kernel) rfl
theorem im_X6_begin : Cond.instanceMethod yX6_begin ∈ gw := gw_at 415 (by decide +kernel) rfl
theorem se_X6_begin : Cond.selects RX6 yX6_begin yX6_begin ∈ gw := gw_at 416 (by decide +kernel) rfl
theorem cd_X6_begin : Cond.code yX6_begin cX6_begin 3 none ∈ gw := gw_in (tb_2 (List.mem_of_getElem? (i := 98) rfl)) rfl
theorem ml_X6_19 : Cond.methodLink RX6 19 yX6_clear ∈ gw := gw_at 418 (by decide +kernel) rfl
theorem ml_X2_64 : Cond.methodLink RX2 64 yX0_frameOf ∈ gw := gw_at 419 (by decide +kernel) rfl
theorem ml_X2_68 : Cond.methodLink RX2 68 yX6_goesTo ∈ gw := gw_at 420 (by decide +kernel) rfl
theorem im_X6_goesTo : Cond.instanceMethod yX6_goesTo ∈ gw := gw_at 421 (by decide +kernel) rfl
theorem se_X6_goesTo : Cond.selects RX6 yX6_goesTo yX6_goesTo ∈ gw := gw_at 422 (by decide +kernel) rfl
theorem cd_X6_goesTo : Cond.code yX6_goesTo cX6_goesTo 3 (some .boolean) ∈ gw := gw_in (tb_2 (List.mem_of_getElem? (i := 104) rfl)) rfl
theorem ml_X6_40 : Cond.methodLink RX6 40 yX3_goesTo ∈ gw := gw_at 424 (by decide +kernel) rfl
theorem st_X3_goesTo : Cond.static yX3_goesTo ∈ gw := gw_at 425 (by decide +kernel) rfl
theorem cd_X3_goesTo : Cond.code yX3_goesTo cX3_goesTo 2 (some .boolean) ∈ gw := gw_in (tb_2 (List.mem_of_getElem? (i := 107) rfl)) rfl
theorem ml_X3_29 : Cond.methodLink RX3 29 yX3_isReference ∈ gw := gw_at 427 (by decide +kernel) rfl
theorem st_X3_isReference : Cond.static yX3_isReference ∈ gw := gw_at 428 (by decide +kernel) rfl
theorem cd_X3_isReference : Cond.code yX3_isReference cX3_isReference 1 (some .boolean) ∈ gw := gw_in (tb_2 (List.mem_of_getElem? (i := 110) rfl)) rfl
theorem ml_X3_32 : Cond.methodLink RX3 32 yX3_isUnder ∈ gw := gw_at 430 (by decide +kernel) rfl
theorem st_X3_isUnder : Cond.static yX3_isUnder ∈ gw := gw_at 431 (by decide +kernel) rfl
theorem cd_X3_isUnder : Cond.code yX3_isUnder cX3_isUnder 2 (some .boolean) ∈ gw := gw_in (tb_2 (List.mem_of_getElem? (i := 113) rfl)) rfl
theorem fl_X3_25 : Cond.fieldLink RX3 25 "KindJudge$Kinds" "UNDER" "[I" ∈ gw := gw_at 433 (by decide +kernel) rfl
theorem ml_X2_72 : Cond.methodLink RX2 72 yX6_copyFrom ∈ gw := gw_at 435 (by decide +kernel) rfl
theorem im_X6_copyFrom : Cond.instanceMethod yX6_copyFrom ∈ gw := gw_at 436 (by decide +kernel) rfl
theorem se_X6_copyFrom : Cond.selects RX6 yX6_copyFrom yX6_copyFrom ∈ gw := gw_at 437 (by decide +kernel) rfl
theorem cd_X6_copyFrom : Cond.code yX6_copyFrom cX6_copyFrom 2 none ∈ gw := gw_in (tb_2 (List.mem_of_getElem? (i := 119) rfl)) rfl
theorem ml_X6_23 : Cond.methodLink RX6 23 arraycopyName ∈ gw := gw_at 439 (by decide +kernel) rfl
theorem st_arraycopyName : Cond.static arraycopyName ∈ gw := gw_at 440 (by decide +kernel) rfl
theorem nat_copy : Cond.native arraycopyName ∈ gw := gw_at 441 (by decide +kernel) rfl
end
section
theorem ml_X2_76 : Cond.methodLink RX2 76 yX8_does ∈ gw := gw_at 442 (by decide +kernel) rfl
theorem im_X8_does : Cond.instanceMethod yX8_does ∈ gw := gw_at 443 (by decide +kernel) rfl
theorem se_X8_does : Cond.selects RX8 yX8_does yX8_does ∈ gw := gw_at 444 (by decide +kernel) rfl
theorem cd_X8_does : Cond.code yX8_does cX8_does 7 (some .boolean) ∈ gw := gw_in (tb_2 (List.mem_of_getElem? (i := 126) rfl)) rfl
theorem ml_X8_16 : Cond.methodLink RX8 16 yX0_hasInstruction ∈ gw := gw_at 446 (by decide +kernel) rfl
theorem im_X0_hasInstruction : Cond.instanceMethod yX0_hasInstruction ∈ gw := gw_at 447 (by decide +kernel) rfl
theorem se_X0_hasInstruction : Cond.selects RX0 yX0_hasInstruction yX0_hasInstruction ∈ gw := gw_at 448 (by decide +kernel) rfl
theorem cd_X0_hasInstruction : Cond.code yX0_hasInstruction cX0_hasInstruction 3 (some .boolean) ∈ gw := gw_in (tb_2 (List.mem_of_getElem? (i := 130) rfl)) rfl
theorem ml_X8_40 : Cond.methodLink RX8 40 yX8_moves ∈ gw := gw_at 450 (by decide +kernel) rfl
theorem im_X8_moves : Cond.instanceMethod yX8_moves ∈ gw := gw_at 452 (by decide +kernel) rfl
theorem cd_X8_moves : Cond.code yX8_moves cX8_moves 5 (some .boolean) ∈ gw := gw_in (tb_2 (List.mem_of_getElem? (i := 134) rfl)) rfl
theorem ml_X8_74 : Cond.methodLink RX8 74 yX6_push ∈ gw := gw_at 454 (by decide +kernel) rfl
theorem im_X6_push : Cond.instanceMethod yX6_push ∈ gw := gw_at 455 (by decide +kernel) rfl
theorem se_X6_push : Cond.selects RX6 yX6_push yX6_push ∈ gw := gw_at 456 (by decide +kernel) rfl
theorem cd_X6_push : Cond.code yX6_push cX6_push 2 (some .boolean) ∈ gw := gw_in (tb_2 (List.mem_of_getElem? (i := 138) rfl)) rfl
theorem ml_X8_77 : Cond.methodLink RX8 77 yX6_pushLong ∈ gw := gw_at 458 (by decide +kernel) rfl
theorem im_X6_pushLong : Cond.instanceMethod yX6_pushLong ∈ gw := gw_at 459 (by decide +kernel) rfl
theorem se_X6_pushLong : Cond.selects RX6 yX6_pushLong yX6_pushLong ∈ gw := gw_at 460 (by decide +kernel) rfl
theorem cd_X6_pushLong : Cond.code yX6_pushLong cX6_pushLong 1 (some .boolean) ∈ gw := gw_in (tb_2 (List.mem_of_getElem? (i := 142) rfl)) rfl
theorem ml_X6_37 : Cond.methodLink RX6 37 yX6_push ∈ gw := gw_at 462 (by decide +kernel) rfl
theorem kl_X8_81 : Cond.constantLong RX8 81 (8) ∈ gw := gw_at 463 (by decide +kernel) rfl
theorem ml_X8_86 : Cond.methodLink RX8 86 yX3_isOnePlace ∈ gw := gw_at 464 (by decide +kernel) rfl
theorem st_X3_isOnePlace : Cond.static yX3_isOnePlace ∈ gw := gw_at 465 (by decide +kernel) rfl
theorem cd_X3_isOnePlace : Cond.code yX3_isOnePlace cX3_isOnePlace 1 (some .boolean) ∈ gw := gw_in (tb_2 (List.mem_of_getElem? (i := 147) rfl)) rfl
theorem ml_X8_89 : Cond.methodLink RX8 89 yX8_stores ∈ gw := gw_at 467 (by decide +kernel) rfl
theorem im_X8_stores : Cond.instanceMethod yX8_stores ∈ gw := gw_at 469 (by decide +kernel) rfl
theorem cd_X8_stores : Cond.code yX8_stores cX8_stores 3 (some .boolean) ∈ gw := gw_in (tb_2 (List.mem_of_getElem? (i := 151) rfl)) rfl
theorem ml_X8_98 : Cond.methodLink RX8 98 yX6_popOne ∈ gw := gw_at 471 (by decide +kernel) rfl
theorem im_X6_popOne : Cond.instanceMethod yX6_popOne ∈ gw := gw_at 472 (by decide +kernel) rfl
theorem se_X6_popOne : Cond.selects RX6 yX6_popOne yX6_popOne ∈ gw := gw_at 473 (by decide +kernel) rfl
theorem cd_X6_popOne : Cond.code yX6_popOne cX6_popOne 2 (some .int) ∈ gw := gw_in (tb_2 (List.mem_of_getElem? (i := 155) rfl)) rfl
theorem ml_X6_48 : Cond.methodLink RX6 48 yX6_top ∈ gw := gw_at 475 (by decide +kernel) rfl
theorem im_X6_top : Cond.instanceMethod yX6_top ∈ gw := gw_at 476 (by decide +kernel) rfl
theorem se_X6_top : Cond.selects RX6 yX6_top yX6_top ∈ gw := gw_at 477 (by decide +kernel) rfl
theorem cd_X6_top : Cond.code yX6_top cX6_top 1 (some .int) ∈ gw := gw_in (tb_2 (List.mem_of_getElem? (i := 159) rfl)) rfl
theorem ml_X6_52 : Cond.methodLink RX6 52 yX3_isOnePlace ∈ gw := gw_at 479 (by decide +kernel) rfl
theorem ml_X8_102 : Cond.methodLink RX8 102 yX6_write ∈ gw := gw_at 480 (by decide +kernel) rfl
theorem im_X6_write : Cond.instanceMethod yX6_write ∈ gw := gw_at 481 (by decide +kernel) rfl
theorem se_X6_write : Cond.selects RX6 yX6_write yX6_write ∈ gw := gw_at 482 (by decide +kernel) rfl
theorem cd_X6_write : Cond.code yX6_write cX6_write 5 none ∈ gw := gw_in (tb_2 (List.mem_of_getElem? (i := 164) rfl)) rfl
theorem ml_X8_92 : Cond.methodLink RX8 92 yX8_holdsLong ∈ gw := gw_at 484 (by decide +kernel) rfl
theorem im_X8_holdsLong : Cond.instanceMethod yX8_holdsLong ∈ gw := gw_at 486 (by decide +kernel) rfl
theorem cd_X8_holdsLong : Cond.code yX8_holdsLong cX8_holdsLong 2 (some .boolean) ∈ gw := gw_in (tb_2 (List.mem_of_getElem? (i := 168) rfl)) rfl
theorem ml_X8_95 : Cond.methodLink RX8 95 yX8_storesLong ∈ gw := gw_at 488 (by decide +kernel) rfl
theorem im_X8_storesLong : Cond.instanceMethod yX8_storesLong ∈ gw := gw_at 490 (by decide +kernel) rfl
theorem cd_X8_storesLong : Cond.code yX8_storesLong cX8_storesLong 2 (some .boolean) ∈ gw := gw_in (tb_2 (List.mem_of_getElem? (i := 172) rfl)) rfl
theorem ml_X8_106 : Cond.methodLink RX8 106 yX6_popLong ∈ gw := gw_at 492 (by decide +kernel) rfl
theorem im_X6_popLong : Cond.instanceMethod yX6_popLong ∈ gw := gw_at 493 (by decide +kernel) rfl
theorem se_X6_popLong : Cond.selects RX6 yX6_popLong yX6_popLong ∈ gw := gw_at 494 (by decide +kernel) rfl
theorem cd_X6_popLong : Cond.code yX6_popLong cX6_popLong 2 (some .boolean) ∈ gw := gw_in (tb_2 (List.mem_of_getElem? (i := 176) rfl)) rfl
theorem ml_X8_109 : Cond.methodLink RX8 109 yX6_writeLong ∈ gw := gw_at 496 (by decide +kernel) rfl
theorem im_X6_writeLong : Cond.instanceMethod yX6_writeLong ∈ gw := gw_at 497 (by decide +kernel) rfl
theorem se_X6_writeLong : Cond.selects RX6 yX6_writeLong yX6_writeLong ∈ gw := gw_at 498 (by decide +kernel) rfl
theorem cd_X6_writeLong : Cond.code yX6_writeLong cX6_writeLong 2 none ∈ gw := gw_in (tb_2 (List.mem_of_getElem? (i := 180) rfl)) rfl
theorem ml_X6_61 : Cond.methodLink RX6 61 yX6_write ∈ gw := gw_at 500 (by decide +kernel) rfl
theorem ml_X8_44 : Cond.methodLink RX8 44 yX8_reckons ∈ gw := gw_at 501 (by decide +kernel) rfl
theorem im_X8_reckons : Cond.instanceMethod yX8_reckons ∈ gw := gw_at 503 (by decide +kernel) rfl
theorem cd_X8_reckons : Cond.code yX8_reckons cX8_reckons 5 (some .boolean) ∈ gw := gw_in (tb_2 (List.mem_of_getElem? (i := 185) rfl)) rfl
theorem kl_X8_113 : Cond.constantLong RX8 113 (4) ∈ gw := gw_at 505 (by decide +kernel) rfl
theorem ml_X8_115 : Cond.methodLink RX8 115 yX6_pop ∈ gw := gw_at 506 (by decide +kernel) rfl
theorem im_X6_pop : Cond.instanceMethod yX6_pop ∈ gw := gw_at 507 (by decide +kernel) rfl
theorem se_X6_pop : Cond.selects RX6 yX6_pop yX6_pop ∈ gw := gw_at 508 (by decide +kernel) rfl
theorem cd_X6_pop : Cond.code yX6_pop cX6_pop 2 (some .boolean) ∈ gw := gw_in (tb_2 (List.mem_of_getElem? (i := 190) rfl)) rfl
theorem ml_X8_47 : Cond.methodLink RX8 47 yX8_begins ∈ gw := gw_at 510 (by decide +kernel) rfl
theorem im_X8_begins : Cond.instanceMethod yX8_begins ∈ gw := gw_at 512 (by decide +kernel) rfl
theorem cd_X8_begins : Cond.code yX8_begins cX8_begins 5 (some .boolean) ∈ gw := gw_in (tb_2 (List.mem_of_getElem? (i := 194) rfl)) rfl
theorem ml_X8_118 : Cond.methodLink RX8 118 yX3_isClass ∈ gw := gw_at 514 (by decide +kernel) rfl
theorem st_X3_isClass : Cond.static yX3_isClass ∈ gw := gw_at 515 (by decide +kernel) rfl
theorem cd_X3_isClass : Cond.code yX3_isClass cX3_isClass 2 (some .boolean) ∈ gw := gw_in (tb_2 (List.mem_of_getElem? (i := 197) rfl)) rfl
theorem kl_X3_9 : Cond.constantLong RX3 9 (5) ∈ gw := gw_at 517 (by decide +kernel) rfl
theorem ml_X8_121 : Cond.methodLink RX8 121 yX6_stackHolds ∈ gw := gw_at 518 (by decide +kernel) rfl
theorem im_X6_stackHolds : Cond.instanceMethod yX6_stackHolds ∈ gw := gw_at 519 (by decide +kernel) rfl
theorem se_X6_stackHolds : Cond.selects RX6 yX6_stackHolds yX6_stackHolds ∈ gw := gw_at 520 (by decide +kernel) rfl
theorem cd_X6_stackHolds : Cond.code yX6_stackHolds cX6_stackHolds 3 (some .boolean) ∈ gw := gw_in (tb_2 (List.mem_of_getElem? (i := 202) rfl)) rfl
theorem ml_X8_124 : Cond.methodLink RX8 124 yX6_replace ∈ gw := gw_at 522 (by decide +kernel) rfl
theorem im_X6_replace : Cond.instanceMethod yX6_replace ∈ gw := gw_at 523 (by decide +kernel) rfl
theorem se_X6_replace : Cond.selects RX6 yX6_replace yX6_replace ∈ gw := gw_at 524 (by decide +kernel) rfl
theorem cd_X6_replace : Cond.code yX6_replace cX6_replace 4 none ∈ gw := gw_in (tb_2 (List.mem_of_getElem? (i := 206) rfl)) rfl
theorem ml_X8_50 : Cond.methodLink RX8 50 yX8_finishes ∈ gw := gw_at 526 (by decide +kernel) rfl
theorem im_X8_finishes : Cond.instanceMethod yX8_finishes ∈ gw := gw_at 528 (by decide +kernel) rfl
theorem cd_X8_finishes : Cond.code yX8_finishes cX8_finishes 6 (some .boolean) ∈ gw := gw_in (tb_2 (List.mem_of_getElem? (i := 210) rfl)) rfl
theorem ml_X8_127 : Cond.methodLink RX8 127 yX3_isUnmade ∈ gw := gw_at 530 (by decide +kernel) rfl
theorem ml_X8_54 : Cond.methodLink RX8 54 yX8_usesArray ∈ gw := gw_at 531 (by decide +kernel) rfl
theorem im_X8_usesArray : Cond.instanceMethod yX8_usesArray ∈ gw := gw_at 533 (by decide +kernel) rfl
theorem cd_X8_usesArray : Cond.code yX8_usesArray cX8_usesArray 4 (some .boolean) ∈ gw := gw_in (tb_2 (List.mem_of_getElem? (i := 215) rfl)) rfl
theorem ml_X8_130 : Cond.methodLink RX8 130 yX6_popRow ∈ gw := gw_at 535 (by decide +kernel) rfl
theorem im_X6_popRow : Cond.instanceMethod yX6_popRow ∈ gw := gw_at 536 (by decide +kernel) rfl
theorem se_X6_popRow : Cond.selects RX6 yX6_popRow yX6_popRow ∈ gw := gw_at 537 (by decide +kernel) rfl
theorem cd_X6_popRow : Cond.code yX6_popRow cX6_popRow 2 (some .int) ∈ gw := gw_in (tb_2 (List.mem_of_getElem? (i := 219) rfl)) rfl
theorem ml_X6_55 : Cond.methodLink RX6 55 yX3_isRow ∈ gw := gw_at 539 (by decide +kernel) rfl
theorem ml_X6_58 : Cond.methodLink RX6 58 yX6_popOne ∈ gw := gw_at 540 (by decide +kernel) rfl
theorem ml_X8_133 : Cond.methodLink RX8 133 yX8_takes ∈ gw := gw_at 541 (by decide +kernel) rfl
theorem im_X8_takes : Cond.instanceMethod yX8_takes ∈ gw := gw_at 543 (by decide +kernel) rfl
theorem cd_X8_takes : Cond.code yX8_takes cX8_takes 2 (some .boolean) ∈ gw := gw_in (tb_2 (List.mem_of_getElem? (i := 225) rfl)) rfl
theorem ml_X8_136 : Cond.methodLink RX8 136 yX3_isRow ∈ gw := gw_at 545 (by decide +kernel) rfl
theorem ml_X8_57 : Cond.methodLink RX8 57 yX8_usesObject ∈ gw := gw_at 546 (by decide +kernel) rfl
theorem im_X8_usesObject : Cond.instanceMethod yX8_usesObject ∈ gw := gw_at 548 (by decide +kernel) rfl
theorem cd_X8_usesObject : Cond.code yX8_usesObject cX8_usesObject 4 (some .boolean) ∈ gw := gw_in (tb_2 (List.mem_of_getElem? (i := 230) rfl)) rfl
theorem ml_X8_139 : Cond.methodLink RX8 139 yX3_isClassOrFace ∈ gw := gw_at 550 (by decide +kernel) rfl
theorem st_X3_isClassOrFace : Cond.static yX3_isClassOrFace ∈ gw := gw_at 551 (by decide +kernel) rfl
theorem cd_X3_isClassOrFace : Cond.code yX3_isClassOrFace cX3_isClassOrFace 2 (some .boolean) ∈ gw := gw_in (tb_2 (List.mem_of_getElem? (i := 233) rfl)) rfl
theorem kl_X3_11 : Cond.constantLong RX3 11 (7) ∈ gw := gw_at 553 (by decide +kernel) rfl
theorem ml_X8_60 : Cond.methodLink RX8 60 yX8_turns ∈ gw := gw_at 554 (by decide +kernel) rfl
theorem im_X8_turns : Cond.instanceMethod yX8_turns ∈ gw := gw_at 556 (by decide +kernel) rfl
theorem cd_X8_turns : Cond.code yX8_turns cX8_turns 4 (some .boolean) ∈ gw := gw_in (tb_2 (List.mem_of_getElem? (i := 238) rfl)) rfl
theorem ml_X8_64 : Cond.methodLink RX8 64 yX8_calls ∈ gw := gw_at 558 (by decide +kernel) rfl
theorem im_X8_calls : Cond.instanceMethod yX8_calls ∈ gw := gw_at 560 (by decide +kernel) rfl
theorem cd_X8_calls : Cond.code yX8_calls cX8_calls 7 (some .boolean) ∈ gw := gw_in (tb_3 (List.mem_of_getElem? (i := 2) rfl)) rfl
theorem ml_X8_145 : Cond.methodLink RX8 145 yX7_at ∈ gw := gw_at 562 (by decide +kernel) rfl
theorem ml_X8_68 : Cond.methodLink RX8 68 yX8_goesElsewhere ∈ gw := gw_at 563 (by decide +kernel) rfl
theorem im_X8_goesElsewhere : Cond.instanceMethod yX8_goesElsewhere ∈ gw := gw_at 565 (by decide +kernel) rfl
theorem cd_X8_goesElsewhere : Cond.code yX8_goesElsewhere cX8_goesElsewhere 5 (some .boolean) ∈ gw := gw_in (tb_3 (List.mem_of_getElem? (i := 7) rfl)) rfl
theorem ml_X2_80 : Cond.methodLink RX2 80 yX2_leadsToFrame ∈ gw := gw_at 567 (by decide +kernel) rfl
theorem im_X2_leadsToFrame : Cond.instanceMethod yX2_leadsToFrame ∈ gw := gw_at 569 (by decide +kernel) rfl
theorem cd_X2_leadsToFrame : Cond.code yX2_leadsToFrame cX2_leadsToFrame 3 (some .boolean) ∈ gw := gw_in (tb_3 (List.mem_of_getElem? (i := 11) rfl)) rfl
theorem ml_X2_84 : Cond.methodLink RX2 84 yX2_handlersFit ∈ gw := gw_at 571 (by decide +kernel) rfl
theorem im_X2_handlersFit : Cond.instanceMethod yX2_handlersFit ∈ gw := gw_at 573 (by decide +kernel) rfl
theorem cd_X2_handlersFit : Cond.code yX2_handlersFit cX2_handlersFit 5 (some .boolean) ∈ gw := gw_in (tb_3 (List.mem_of_getElem? (i := 15) rfl)) rfl
theorem ml_X2_95 : Cond.methodLink RX2 95 yX6_becomeCaught ∈ gw := gw_at 575 (by decide +kernel) rfl
theorem im_X6_becomeCaught : Cond.instanceMethod yX6_becomeCaught ∈ gw := gw_at 576 (by decide +kernel) rfl
theorem se_X6_becomeCaught : Cond.selects RX6 yX6_becomeCaught yX6_becomeCaught ∈ gw := gw_at 577 (by decide +kernel) rfl
theorem cd_X6_becomeCaught : Cond.code yX6_becomeCaught cX6_becomeCaught 2 none ∈ gw := gw_in (tb_3 (List.mem_of_getElem? (i := 19) rfl)) rfl
theorem ml_X6_33 : Cond.methodLink RX6 33 yX6_copyFrom ∈ gw := gw_at 579 (by decide +kernel) rfl
theorem ml_X2_101 : Cond.methodLink RX2 101 yX0_covers ∈ gw := gw_at 580 (by decide +kernel) rfl
theorem im_X0_covers : Cond.instanceMethod yX0_covers ∈ gw := gw_at 581 (by decide +kernel) rfl
theorem se_X0_covers : Cond.selects RX0 yX0_covers yX0_covers ∈ gw := gw_at 582 (by decide +kernel) rfl
theorem cd_X0_covers : Cond.code yX0_covers cX0_covers 3 (some .boolean) ∈ gw := gw_in (tb_3 (List.mem_of_getElem? (i := 24) rfl)) rfl
theorem ml_X2_108 : Cond.methodLink RX2 108 yX0_hasInstruction ∈ gw := gw_at 584 (by decide +kernel) rfl
theorem ml_L_44 : Cond.methodLink RL 44 yX9_join ∈ gw := gw_at 585 (by decide +kernel) rfl
theorem im_X9_join : Cond.instanceMethod yX9_join ∈ gw := gw_at 586 (by decide +kernel) rfl
theorem se_X9_join : Cond.selects RX9 yX9_join yX9_join ∈ gw := gw_at 587 (by decide +kernel) rfl
theorem cd_X9_join : Cond.code yX9_join cX9_join 4 (some .int) ∈ gw := gw_in (tb_3 (List.mem_of_getElem? (i := 29) rfl)) rfl
theorem ml_X9_79 : Cond.methodLink RX9 79 yX2_byJoining ∈ gw := gw_at 589 (by decide +kernel) rfl
theorem im_X2_byJoining : Cond.instanceMethod yX2_byJoining ∈ gw := gw_at 590 (by decide +kernel) rfl
theorem se_X2_byJoining : Cond.selects RX2 yX2_byJoining yX2_byJoining ∈ gw := gw_at 591 (by decide +kernel) rfl
theorem cd_X2_byJoining : Cond.code yX2_byJoining cX2_byJoining 4 (some .int) ∈ gw := gw_in (tb_3 (List.mem_of_getElem? (i := 33) rfl)) rfl
theorem ml_X2_115 : Cond.methodLink RX2 115 yX2_arrives ∈ gw := gw_at 593 (by decide +kernel) rfl
theorem im_X2_arrives : Cond.instanceMethod yX2_arrives ∈ gw := gw_at 595 (by decide +kernel) rfl
theorem cd_X2_arrives : Cond.code yX2_arrives cX2_arrives 5 (some .boolean) ∈ gw := gw_in (tb_3 (List.mem_of_getElem? (i := 37) rfl)) rfl
theorem ml_X2_126 : Cond.methodLink RX2 126 yX6_takeIn ∈ gw := gw_at 597 (by decide +kernel) rfl
theorem im_X6_takeIn : Cond.instanceMethod yX6_takeIn ∈ gw := gw_at 598 (by decide +kernel) rfl
theorem se_X6_takeIn : Cond.selects RX6 yX6_takeIn yX6_takeIn ∈ gw := gw_at 599 (by decide +kernel) rfl
theorem cd_X6_takeIn : Cond.code yX6_takeIn cX6_takeIn 5 (some .boolean) ∈ gw := gw_in (tb_3 (List.mem_of_getElem? (i := 41) rfl)) rfl
theorem ml_X6_44 : Cond.methodLink RX6 44 yX3_joinOf ∈ gw := gw_at 601 (by decide +kernel) rfl
theorem st_X3_joinOf : Cond.static yX3_joinOf ∈ gw := gw_at 602 (by decide +kernel) rfl
theorem cd_X3_joinOf : Cond.code yX3_joinOf cX3_joinOf 2 (some .int) ∈ gw := gw_in (tb_3 (List.mem_of_getElem? (i := 44) rfl)) rfl
theorem ml_X3_36 : Cond.methodLink RX3 36 yX3_sharedClass ∈ gw := gw_at 604 (by decide +kernel) rfl
theorem st_X3_sharedClass : Cond.static yX3_sharedClass ∈ gw := gw_at 605 (by decide +kernel) rfl
theorem cd_X3_sharedClass : Cond.code yX3_sharedClass cX3_sharedClass 4 (some .int) ∈ gw := gw_in (tb_3 (List.mem_of_getElem? (i := 47) rfl)) rfl
theorem fl_X3_40 : Cond.fieldLink RX3 40 "KindJudge$Kinds" "ABOVE" "[I" ∈ gw := gw_at 607 (by decide +kernel) rfl
theorem ki_X2_122 : Cond.constant RX2 122 (100000) ∈ gw := gw_at 609 (by decide +kernel) rfl
theorem ml_X2_123 : Cond.methodLink RX2 123 yX2_handsOn ∈ gw := gw_at 610 (by decide +kernel) rfl
theorem im_X2_handsOn : Cond.instanceMethod yX2_handsOn ∈ gw := gw_at 612 (by decide +kernel) rfl
theorem cd_X2_handsOn : Cond.code yX2_handsOn cX2_handsOn 5 (some .boolean) ∈ gw := gw_in (tb_3 (List.mem_of_getElem? (i := 54) rfl)) rfl
theorem ml_L_48 : Cond.methodLink RL 48 yX9_kind ∈ gw := gw_at 614 (by decide +kernel) rfl
theorem im_X9_kind : Cond.instanceMethod yX9_kind ∈ gw := gw_at 615 (by decide +kernel) rfl
theorem se_X9_kind : Cond.selects RX9 yX9_kind yX9_kind ∈ gw := gw_at 616 (by decide +kernel) rfl
theorem cd_X9_kind : Cond.code yX9_kind cX9_kind 3 (some .int) ∈ gw := gw_in (tb_3 (List.mem_of_getElem? (i := 58) rfl)) rfl
theorem ml_X9_82 : Cond.methodLink RX9 82 yX2_kindAhead ∈ gw := gw_at 618 (by decide +kernel) rfl
theorem im_X2_kindAhead : Cond.instanceMethod yX2_kindAhead ∈ gw := gw_at 619 (by decide +kernel) rfl
theorem se_X2_kindAhead : Cond.selects RX2 yX2_kindAhead yX2_kindAhead ∈ gw := gw_at 620 (by decide +kernel) rfl
theorem cd_X2_kindAhead : Cond.code yX2_kindAhead cX2_kindAhead 3 (some .int) ∈ gw := gw_in (tb_3 (List.mem_of_getElem? (i := 62) rfl)) rfl
theorem ml_X2_35 : Cond.methodLink RX2 35 yX6_has ∈ gw := gw_at 622 (by decide +kernel) rfl
theorem ki_X2_39 : Cond.constant RX2 39 (-99999999) ∈ gw := gw_at 623 (by decide +kernel) rfl
theorem ml_L_53 : Cond.methodLink RL 53 yX9_rounds ∈ gw := gw_at 624 (by decide +kernel) rfl
theorem im_X9_rounds : Cond.instanceMethod yX9_rounds ∈ gw := gw_at 625 (by decide +kernel) rfl
theorem se_X9_rounds : Cond.selects RX9 yX9_rounds yX9_rounds ∈ gw := gw_at 626 (by decide +kernel) rfl
theorem cd_X9_rounds : Cond.code yX9_rounds cX9_rounds 1 (some .int) ∈ gw := gw_in (tb_3 (List.mem_of_getElem? (i := 68) rfl)) rfl
theorem ml_L_58 : Cond.methodLink RL 58 yX9_kinds ∈ gw := gw_at 628 (by decide +kernel) rfl
theorem im_X9_kinds : Cond.instanceMethod yX9_kinds ∈ gw := gw_at 629 (by decide +kernel) rfl
theorem se_X9_kinds : Cond.selects RX9 yX9_kinds yX9_kinds ∈ gw := gw_at 630 (by decide +kernel) rfl
theorem cd_X9_kinds : Cond.code yX9_kinds cX9_kinds 4 (some .int) ∈ gw := gw_in (tb_3 (List.mem_of_getElem? (i := 72) rfl)) rfl
theorem ml_X9_89 : Cond.methodLink RX9 89 yX3_goesTo ∈ gw := gw_at 632 (by decide +kernel) rfl
theorem ml_X9_93 : Cond.methodLink RX9 93 yX3_joinOf ∈ gw := gw_at 633 (by decide +kernel) rfl
theorem ml_L_63 : Cond.methodLink RL 63 yX9_run ∈ gw := gw_at 634 (by decide +kernel) rfl
theorem im_X9_run : Cond.instanceMethod yX9_run ∈ gw := gw_at 635 (by decide +kernel) rfl
theorem se_X9_run : Cond.selects RX9 yX9_run yX9_run ∈ gw := gw_at 636 (by decide +kernel) rfl
theorem cd_X9_run : Cond.code yX9_run cX9_run 7 (some .int) ∈ gw := gw_in (tb_3 (List.mem_of_getElem? (i := 78) rfl)) rfl
theorem ml_X9_96 : Cond.methodLink RX9 96 yX7_isReady ∈ gw := gw_at 638 (by decide +kernel) rfl
theorem im_X7_isReady : Cond.instanceMethod yX7_isReady ∈ gw := gw_at 639 (by decide +kernel) rfl
theorem se_X7_isReady : Cond.selects RX7 yX7_isReady yX7_isReady ∈ gw := gw_at 640 (by decide +kernel) rfl
theorem cd_X7_isReady : Cond.code yX7_isReady cX7_isReady 5 (some .boolean) ∈ gw := gw_in (tb_3 (List.mem_of_getElem? (i := 82) rfl)) rfl
theorem ml_X7_28 : Cond.methodLink RX7 28 yX0_called ∈ gw := gw_at 642 (by decide +kernel) rfl
theorem im_X0_called : Cond.instanceMethod yX0_called ∈ gw := gw_at 643 (by decide +kernel) rfl
theorem se_X0_called : Cond.selects RX0 yX0_called yX0_called ∈ gw := gw_at 644 (by decide +kernel) rfl
theorem cd_X0_called : Cond.code yX0_called cX0_called 3 (some .int) ∈ gw := gw_in (tb_3 (List.mem_of_getElem? (i := 86) rfl)) rfl
theorem ml_X9_99 : Cond.methodLink RX9 99 yX4_prepare ∈ gw := gw_at 646 (by decide +kernel) rfl
theorem im_X4_prepare : Cond.instanceMethod yX4_prepare ∈ gw := gw_at 647 (by decide +kernel) rfl
theorem se_X4_prepare : Cond.selects RX4 yX4_prepare yX4_prepare ∈ gw := gw_at 648 (by decide +kernel) rfl
theorem cd_X4_prepare : Cond.code yX4_prepare cX4_prepare 2 none ∈ gw := gw_in (tb_3 (List.mem_of_getElem? (i := 90) rfl)) rfl
theorem ml_X4_53 : Cond.methodLink RX4 53 yX4_enter ∈ gw := gw_at 650 (by decide +kernel) rfl
theorem im_X4_enter : Cond.instanceMethod yX4_enter ∈ gw := gw_at 652 (by decide +kernel) rfl
theorem cd_X4_enter : Cond.code yX4_enter cX4_enter 2 none ∈ gw := gw_in (tb_3 (List.mem_of_getElem? (i := 94) rfl)) rfl
theorem ml_X9_103 : Cond.methodLink RX9 103 yX4_giveParams ∈ gw := gw_at 654 (by decide +kernel) rfl
theorem im_X4_giveParams : Cond.instanceMethod yX4_giveParams ∈ gw := gw_at 655 (by decide +kernel) rfl
theorem se_X4_giveParams : Cond.selects RX4 yX4_giveParams yX4_giveParams ∈ gw := gw_at 656 (by decide +kernel) rfl
theorem cd_X4_giveParams : Cond.code yX4_giveParams cX4_giveParams 5 none ∈ gw := gw_in (tb_3 (List.mem_of_getElem? (i := 98) rfl)) rfl
theorem ml_X9_107 : Cond.methodLink RX9 107 yX4_goOn ∈ gw := gw_at 658 (by decide +kernel) rfl
theorem im_X4_goOn : Cond.instanceMethod yX4_goOn ∈ gw := gw_at 659 (by decide +kernel) rfl
theorem se_X4_goOn : Cond.selects RX4 yX4_goOn yX4_goOn ∈ gw := gw_at 660 (by decide +kernel) rfl
theorem cd_X4_goOn : Cond.code yX4_goOn cX4_goOn 2 (some .int) ∈ gw := gw_in (tb_3 (List.mem_of_getElem? (i := 102) rfl)) rfl
theorem ml_X4_72 : Cond.methodLink RX4 72 yX4_doNext ∈ gw := gw_at 662 (by decide +kernel) rfl
theorem im_X4_doNext : Cond.instanceMethod yX4_doNext ∈ gw := gw_at 664 (by decide +kernel) rfl
theorem cd_X4_doNext : Cond.code yX4_doNext cX4_doNext 5 none ∈ gw := gw_in (tb_3 (List.mem_of_getElem? (i := 106) rfl)) rfl
theorem ml_X4_76 : Cond.methodLink RX4 76 yX0_hasInstruction ∈ gw := gw_at 666 (by decide +kernel) rfl
theorem ml_X4_86 : Cond.methodLink RX4 86 yX4_does ∈ gw := gw_at 667 (by decide +kernel) rfl
theorem im_X4_does : Cond.instanceMethod yX4_does ∈ gw := gw_at 669 (by decide +kernel) rfl
theorem cd_X4_does : Cond.code yX4_does cX4_does 5 (some .int) ∈ gw := gw_in (tb_3 (List.mem_of_getElem? (i := 111) rfl)) rfl
theorem ml_X4_122 : Cond.methodLink RX4 122 yX4_moves ∈ gw := gw_at 671 (by decide +kernel) rfl
theorem im_X4_moves : Cond.instanceMethod yX4_moves ∈ gw := gw_at 673 (by decide +kernel) rfl
theorem cd_X4_moves : Cond.code yX4_moves cX4_moves 5 (some .int) ∈ gw := gw_in (tb_3 (List.mem_of_getElem? (i := 115) rfl)) rfl
theorem ml_X4_112 : Cond.methodLink RX4 112 yX4_push ∈ gw := gw_at 675 (by decide +kernel) rfl
theorem im_X4_push : Cond.instanceMethod yX4_push ∈ gw := gw_at 677 (by decide +kernel) rfl
theorem cd_X4_push : Cond.code yX4_push cX4_push 3 none ∈ gw := gw_in (tb_3 (List.mem_of_getElem? (i := 119) rfl)) rfl
theorem ml_X4_148 : Cond.methodLink RX4 148 yX4_pushLong ∈ gw := gw_at 679 (by decide +kernel) rfl
theorem im_X4_pushLong : Cond.instanceMethod yX4_pushLong ∈ gw := gw_at 681 (by decide +kernel) rfl
theorem cd_X4_pushLong : Cond.code yX4_pushLong cX4_pushLong 3 none ∈ gw := gw_in (tb_3 (List.mem_of_getElem? (i := 123) rfl)) rfl
theorem kl_X4_151 : Cond.constantLong RX4 151 (8) ∈ gw := gw_at 683 (by decide +kernel) rfl
theorem ml_X4_116 : Cond.methodLink RX4 116 yX4_pop ∈ gw := gw_at 684 (by decide +kernel) rfl
theorem im_X4_pop : Cond.instanceMethod yX4_pop ∈ gw := gw_at 686 (by decide +kernel) rfl
theorem cd_X4_pop : Cond.code yX4_pop cX4_pop 1 (some .long) ∈ gw := gw_in (tb_3 (List.mem_of_getElem? (i := 128) rfl)) rfl
theorem ml_X4_153 : Cond.methodLink RX4 153 yX4_popLong ∈ gw := gw_at 688 (by decide +kernel) rfl
theorem im_X4_popLong : Cond.instanceMethod yX4_popLong ∈ gw := gw_at 690 (by decide +kernel) rfl
theorem cd_X4_popLong : Cond.code yX4_popLong cX4_popLong 1 (some .long) ∈ gw := gw_in (tb_3 (List.mem_of_getElem? (i := 132) rfl)) rfl
theorem ml_X4_126 : Cond.methodLink RX4 126 yX4_reckons ∈ gw := gw_at 692 (by decide +kernel) rfl
theorem im_X4_reckons : Cond.instanceMethod yX4_reckons ∈ gw := gw_at 694 (by decide +kernel) rfl
theorem cd_X4_reckons : Cond.code yX4_reckons cX4_reckons 8 (some .int) ∈ gw := gw_in (tb_3 (List.mem_of_getElem? (i := 136) rfl)) rfl
theorem ml_X4_156 : Cond.methodLink RX4 156 yX4_relatesInts ∈ gw := gw_at 696 (by decide +kernel) rfl
theorem im_X4_relatesInts : Cond.instanceMethod yX4_relatesInts ∈ gw := gw_at 698 (by decide +kernel) rfl
theorem cd_X4_relatesInts : Cond.code yX4_relatesInts cX4_relatesInts 4 (some .int) ∈ gw := gw_in (tb_3 (List.mem_of_getElem? (i := 140) rfl)) rfl
theorem ml_X4_162 : Cond.methodLink RX4 162 yX4_popInt ∈ gw := gw_at 700 (by decide +kernel) rfl
theorem im_X4_popInt : Cond.instanceMethod yX4_popInt ∈ gw := gw_at 702 (by decide +kernel) rfl
theorem cd_X4_popInt : Cond.code yX4_popInt cX4_popInt 1 (some .int) ∈ gw := gw_in (tb_3 (List.mem_of_getElem? (i := 144) rfl)) rfl
theorem ml_X4_166 : Cond.methodLink RX4 166 yX4_related ∈ gw := gw_at 704 (by decide +kernel) rfl
theorem st_X4_related : Cond.static yX4_related ∈ gw := gw_at 705 (by decide +kernel) rfl
theorem cd_X4_related : Cond.code yX4_related cX4_related 5 (some .long) ∈ gw := gw_in (tb_3 (List.mem_of_getElem? (i := 147) rfl)) rfl
theorem ml_X4_159 : Cond.methodLink RX4 159 yX4_relatesLongs ∈ gw := gw_at 707 (by decide +kernel) rfl
theorem im_X4_relatesLongs : Cond.instanceMethod yX4_relatesLongs ∈ gw := gw_at 709 (by decide +kernel) rfl
theorem cd_X4_relatesLongs : Cond.code yX4_relatesLongs cX4_relatesLongs 6 (some .int) ∈ gw := gw_in (tb_3 (List.mem_of_getElem? (i := 151) rfl)) rfl
theorem ml_X4_129 : Cond.methodLink RX4 129 yX4_makes ∈ gw := gw_at 711 (by decide +kernel) rfl
theorem im_X4_makes : Cond.instanceMethod yX4_makes ∈ gw := gw_at 713 (by decide +kernel) rfl
theorem cd_X4_makes : Cond.code yX4_makes cX4_makes 4 (some .int) ∈ gw := gw_in (tb_3 (List.mem_of_getElem? (i := 155) rfl)) rfl
theorem ml_X4_172 : Cond.methodLink RX4 172 yX4_pushNew ∈ gw := gw_at 715 (by decide +kernel) rfl
theorem im_X4_pushNew : Cond.instanceMethod yX4_pushNew ∈ gw := gw_at 717 (by decide +kernel) rfl
theorem cd_X4_pushNew : Cond.code yX4_pushNew cX4_pushNew 4 (some .int) ∈ gw := gw_in (tb_3 (List.mem_of_getElem? (i := 159) rfl)) rfl
theorem ml_X4_175 : Cond.methodLink RX4 175 yX1_make ∈ gw := gw_at 719 (by decide +kernel) rfl
theorem im_X1_make : Cond.instanceMethod yX1_make ∈ gw := gw_at 720 (by decide +kernel) rfl
theorem se_X1_make : Cond.selects RX1 yX1_make yX1_make ∈ gw := gw_at 721 (by decide +kernel) rfl
theorem cd_X1_make : Cond.code yX1_make cX1_make 4 (some .int) ∈ gw := gw_in (tb_3 (List.mem_of_getElem? (i := 163) rfl)) rfl
theorem ml_X4_100 : Cond.methodLink RX4 100 yX4_end ∈ gw := gw_at 723 (by decide +kernel) rfl
end
section
theorem im_X4_end : Cond.instanceMethod yX4_end ∈ gw := gw_at 725 (by decide +kernel) rfl
theorem cd_X4_end : Cond.code yX4_end cX4_end 3 none ∈ gw := gw_in (tb_3 (List.mem_of_getElem? (i := 167) rfl)) rfl
theorem ml_X4_132 : Cond.methodLink RX4 132 yX4_usesArray ∈ gw := gw_at 727 (by decide +kernel) rfl
theorem im_X4_usesArray : Cond.instanceMethod yX4_usesArray ∈ gw := gw_at 729 (by decide +kernel) rfl
theorem cd_X4_usesArray : Cond.code yX4_usesArray cX4_usesArray 6 (some .int) ∈ gw := gw_in (tb_3 (List.mem_of_getElem? (i := 171) rfl)) rfl
theorem ml_X4_178 : Cond.methodLink RX4 178 yX1_isNull ∈ gw := gw_at 731 (by decide +kernel) rfl
theorem im_X1_isNull : Cond.instanceMethod yX1_isNull ∈ gw := gw_at 732 (by decide +kernel) rfl
theorem se_X1_isNull : Cond.selects RX1 yX1_isNull yX1_isNull ∈ gw := gw_at 733 (by decide +kernel) rfl
theorem cd_X1_isNull : Cond.code yX1_isNull cX1_isNull 2 (some .boolean) ∈ gw := gw_in (tb_3 (List.mem_of_getElem? (i := 175) rfl)) rfl
theorem ml_X4_182 : Cond.methodLink RX4 182 yX1_length ∈ gw := gw_at 735 (by decide +kernel) rfl
theorem im_X1_length : Cond.instanceMethod yX1_length ∈ gw := gw_at 736 (by decide +kernel) rfl
theorem se_X1_length : Cond.selects RX1 yX1_length yX1_length ∈ gw := gw_at 737 (by decide +kernel) rfl
theorem cd_X1_length : Cond.code yX1_length cX1_length 2 (some .int) ∈ gw := gw_in (tb_3 (List.mem_of_getElem? (i := 179) rfl)) rfl
theorem ml_X1_26 : Cond.methodLink RX1 26 yX1_isNull ∈ gw := gw_at 739 (by decide +kernel) rfl
theorem ml_X4_185 : Cond.methodLink RX4 185 yX1_hasItem ∈ gw := gw_at 740 (by decide +kernel) rfl
theorem im_X1_hasItem : Cond.instanceMethod yX1_hasItem ∈ gw := gw_at 741 (by decide +kernel) rfl
theorem se_X1_hasItem : Cond.selects RX1 yX1_hasItem yX1_hasItem ∈ gw := gw_at 742 (by decide +kernel) rfl
theorem cd_X1_hasItem : Cond.code yX1_hasItem cX1_hasItem 3 (some .boolean) ∈ gw := gw_in (tb_3 (List.mem_of_getElem? (i := 184) rfl)) rfl
theorem ml_X4_189 : Cond.methodLink RX4 189 yX1_canHold ∈ gw := gw_at 744 (by decide +kernel) rfl
theorem im_X1_canHold : Cond.instanceMethod yX1_canHold ∈ gw := gw_at 745 (by decide +kernel) rfl
theorem se_X1_canHold : Cond.selects RX1 yX1_canHold yX1_canHold ∈ gw := gw_at 746 (by decide +kernel) rfl
theorem cd_X1_canHold : Cond.code yX1_canHold cX1_canHold 3 (some .boolean) ∈ gw := gw_in (tb_3 (List.mem_of_getElem? (i := 188) rfl)) rfl
theorem ml_X1_42 : Cond.methodLink RX1 42 yX1_isOf ∈ gw := gw_at 748 (by decide +kernel) rfl
theorem im_X1_isOf : Cond.instanceMethod yX1_isOf ∈ gw := gw_at 749 (by decide +kernel) rfl
theorem se_X1_isOf : Cond.selects RX1 yX1_isOf yX1_isOf ∈ gw := gw_at 750 (by decide +kernel) rfl
theorem cd_X1_isOf : Cond.code yX1_isOf cX1_isOf 3 (some .boolean) ∈ gw := gw_in (tb_3 (List.mem_of_getElem? (i := 192) rfl)) rfl
theorem ml_X1_34 : Cond.methodLink RX1 34 yX3_isObject ∈ gw := gw_at 752 (by decide +kernel) rfl
theorem ml_X1_39 : Cond.methodLink RX1 39 yX3_isUnder ∈ gw := gw_at 753 (by decide +kernel) rfl
theorem ml_X4_192 : Cond.methodLink RX4 192 yX1_putItem ∈ gw := gw_at 754 (by decide +kernel) rfl
theorem im_X1_putItem : Cond.instanceMethod yX1_putItem ∈ gw := gw_at 755 (by decide +kernel) rfl
theorem se_X1_putItem : Cond.selects RX1 yX1_putItem yX1_putItem ∈ gw := gw_at 756 (by decide +kernel) rfl
theorem cd_X1_putItem : Cond.code yX1_putItem cX1_putItem 4 none ∈ gw := gw_in (tb_3 (List.mem_of_getElem? (i := 198) rfl)) rfl
theorem ml_X1_30 : Cond.methodLink RX1 30 yX1_hasItem ∈ gw := gw_at 758 (by decide +kernel) rfl
theorem ml_X4_196 : Cond.methodLink RX4 196 yX1_item ∈ gw := gw_at 759 (by decide +kernel) rfl
theorem im_X1_item : Cond.instanceMethod yX1_item ∈ gw := gw_at 760 (by decide +kernel) rfl
theorem se_X1_item : Cond.selects RX1 yX1_item yX1_item ∈ gw := gw_at 761 (by decide +kernel) rfl
theorem cd_X1_item : Cond.code yX1_item cX1_item 3 (some .int) ∈ gw := gw_in (tb_3 (List.mem_of_getElem? (i := 203) rfl)) rfl
theorem ml_X4_136 : Cond.methodLink RX4 136 yX4_asks ∈ gw := gw_at 763 (by decide +kernel) rfl
theorem im_X4_asks : Cond.instanceMethod yX4_asks ∈ gw := gw_at 765 (by decide +kernel) rfl
theorem cd_X4_asks : Cond.code yX4_asks cX4_asks 5 (some .int) ∈ gw := gw_in (tb_3 (List.mem_of_getElem? (i := 207) rfl)) rfl
theorem ml_X4_199 : Cond.methodLink RX4 199 yX1_isOf ∈ gw := gw_at 767 (by decide +kernel) rfl
theorem ml_X4_139 : Cond.methodLink RX4 139 yX4_usesObject ∈ gw := gw_at 768 (by decide +kernel) rfl
theorem im_X4_usesObject : Cond.instanceMethod yX4_usesObject ∈ gw := gw_at 770 (by decide +kernel) rfl
theorem cd_X4_usesObject : Cond.code yX4_usesObject cX4_usesObject 4 (some .int) ∈ gw := gw_in (tb_3 (List.mem_of_getElem? (i := 212) rfl)) rfl
theorem ml_X4_202 : Cond.methodLink RX4 202 yX1_field ∈ gw := gw_at 772 (by decide +kernel) rfl
theorem im_X1_field : Cond.instanceMethod yX1_field ∈ gw := gw_at 773 (by decide +kernel) rfl
theorem se_X1_field : Cond.selects RX1 yX1_field yX1_field ∈ gw := gw_at 774 (by decide +kernel) rfl
theorem cd_X1_field : Cond.code yX1_field cX1_field 2 (some .int) ∈ gw := gw_in (tb_3 (List.mem_of_getElem? (i := 216) rfl)) rfl
theorem ml_X4_205 : Cond.methodLink RX4 205 yX1_putField ∈ gw := gw_at 776 (by decide +kernel) rfl
theorem im_X1_putField : Cond.instanceMethod yX1_putField ∈ gw := gw_at 777 (by decide +kernel) rfl
theorem se_X1_putField : Cond.selects RX1 yX1_putField yX1_putField ∈ gw := gw_at 778 (by decide +kernel) rfl
theorem cd_X1_putField : Cond.code yX1_putField cX1_putField 3 none ∈ gw := gw_in (tb_3 (List.mem_of_getElem? (i := 220) rfl)) rfl
theorem ml_X4_208 : Cond.methodLink RX4 208 yX1_worth ∈ gw := gw_at 780 (by decide +kernel) rfl
theorem im_X1_worth : Cond.instanceMethod yX1_worth ∈ gw := gw_at 781 (by decide +kernel) rfl
theorem se_X1_worth : Cond.selects RX1 yX1_worth yX1_worth ∈ gw := gw_at 782 (by decide +kernel) rfl
theorem cd_X1_worth : Cond.code yX1_worth cX1_worth 5 (some .int) ∈ gw := gw_in (tb_3 (List.mem_of_getElem? (i := 224) rfl)) rfl
theorem ml_X4_142 : Cond.methodLink RX4 142 yX4_turns ∈ gw := gw_at 784 (by decide +kernel) rfl
theorem im_X4_turns : Cond.instanceMethod yX4_turns ∈ gw := gw_at 786 (by decide +kernel) rfl
theorem cd_X4_turns : Cond.code yX4_turns cX4_turns 6 (some .int) ∈ gw := gw_in (tb_3 (List.mem_of_getElem? (i := 228) rfl)) rfl
theorem ml_X4_145 : Cond.methodLink RX4 145 yX4_leads ∈ gw := gw_at 788 (by decide +kernel) rfl
theorem im_X4_leads : Cond.instanceMethod yX4_leads ∈ gw := gw_at 790 (by decide +kernel) rfl
theorem cd_X4_leads : Cond.code yX4_leads cX4_leads 5 (some .int) ∈ gw := gw_in (tb_3 (List.mem_of_getElem? (i := 232) rfl)) rfl
theorem ml_X4_211 : Cond.methodLink RX4 211 yX4_jumpsIf ∈ gw := gw_at 792 (by decide +kernel) rfl
theorem im_X4_jumpsIf : Cond.instanceMethod yX4_jumpsIf ∈ gw := gw_at 794 (by decide +kernel) rfl
theorem cd_X4_jumpsIf : Cond.code yX4_jumpsIf cX4_jumpsIf 4 (some .int) ∈ gw := gw_in (tb_3 (List.mem_of_getElem? (i := 236) rfl)) rfl
theorem ml_X4_215 : Cond.methodLink RX4 215 yX4_returns ∈ gw := gw_at 796 (by decide +kernel) rfl
theorem im_X4_returns : Cond.instanceMethod yX4_returns ∈ gw := gw_at 798 (by decide +kernel) rfl
theorem cd_X4_returns : Cond.code yX4_returns cX4_returns 2 (some .int) ∈ gw := gw_in (tb_4 (List.mem_of_getElem? (i := 0) rfl)) rfl
theorem ml_X4_218 : Cond.methodLink RX4 218 yX7_at ∈ gw := gw_at 800 (by decide +kernel) rfl
theorem ml_X4_222 : Cond.methodLink RX4 222 yX4_calls ∈ gw := gw_at 801 (by decide +kernel) rfl
theorem im_X4_calls : Cond.instanceMethod yX4_calls ∈ gw := gw_at 803 (by decide +kernel) rfl
theorem cd_X4_calls : Cond.code yX4_calls cX4_calls 4 (some .int) ∈ gw := gw_in (tb_4 (List.mem_of_getElem? (i := 5) rfl)) rfl
theorem ml_X4_90 : Cond.methodLink RX4 90 yX4_arises ∈ gw := gw_at 805 (by decide +kernel) rfl
theorem im_X4_arises : Cond.instanceMethod yX4_arises ∈ gw := gw_at 807 (by decide +kernel) rfl
theorem cd_X4_arises : Cond.code yX4_arises cX4_arises 5 none ∈ gw := gw_in (tb_4 (List.mem_of_getElem? (i := 9) rfl)) rfl
theorem ml_X4_104 : Cond.methodLink RX4 104 yX4_catches ∈ gw := gw_at 809 (by decide +kernel) rfl
theorem im_X4_catches : Cond.instanceMethod yX4_catches ∈ gw := gw_at 811 (by decide +kernel) rfl
theorem cd_X4_catches : Cond.code yX4_catches cX4_catches 5 (some .boolean) ∈ gw := gw_in (tb_4 (List.mem_of_getElem? (i := 13) rfl)) rfl
theorem ml_X4_108 : Cond.methodLink RX4 108 yX0_handlerFor ∈ gw := gw_at 813 (by decide +kernel) rfl
theorem im_X0_handlerFor : Cond.instanceMethod yX0_handlerFor ∈ gw := gw_at 814 (by decide +kernel) rfl
theorem se_X0_handlerFor : Cond.selects RX0 yX0_handlerFor yX0_handlerFor ∈ gw := gw_at 815 (by decide +kernel) rfl
theorem cd_X0_handlerFor : Cond.code yX0_handlerFor cX0_handlerFor 4 (some .int) ∈ gw := gw_in (tb_4 (List.mem_of_getElem? (i := 17) rfl)) rfl
theorem ml_X0_62 : Cond.methodLink RX0 62 yX0_covers ∈ gw := gw_at 817 (by decide +kernel) rfl
theorem ml_L_67 : Cond.methodLink RL 67 yX9_answer ∈ gw := gw_at 818 (by decide +kernel) rfl
theorem im_X9_answer : Cond.instanceMethod yX9_answer ∈ gw := gw_at 819 (by decide +kernel) rfl
theorem se_X9_answer : Cond.selects RX9 yX9_answer yX9_answer ∈ gw := gw_at 820 (by decide +kernel) rfl
theorem cd_X9_answer : Cond.code yX9_answer cX9_answer 1 (some .int) ∈ gw := gw_in (tb_4 (List.mem_of_getElem? (i := 22) rfl)) rfl
theorem ml_L_71 : Cond.methodLink RL 71 yX9_told ∈ gw := gw_at 822 (by decide +kernel) rfl
theorem im_X9_told : Cond.instanceMethod yX9_told ∈ gw := gw_at 823 (by decide +kernel) rfl
theorem se_X9_told : Cond.selects RX9 yX9_told yX9_told ∈ gw := gw_at 824 (by decide +kernel) rfl
theorem cd_X9_told : Cond.code yX9_told cX9_told 2 (some .int) ∈ gw := gw_in (tb_4 (List.mem_of_getElem? (i := 26) rfl)) rfl
theorem ml_L_75 : Cond.methodLink RL 75 yX9_count ∈ gw := gw_at 826 (by decide +kernel) rfl
theorem im_X9_count : Cond.instanceMethod yX9_count ∈ gw := gw_at 827 (by decide +kernel) rfl
theorem se_X9_count : Cond.selects RX9 yX9_count yX9_count ∈ gw := gw_at 828 (by decide +kernel) rfl
theorem cd_X9_count : Cond.code yX9_count cX9_count 4 (some .int) ∈ gw := gw_in (tb_4 (List.mem_of_getElem? (i := 30) rfl)) rfl
theorem cl_L_10 : Cond.classLink RL 10 RX10 ∈ gw := gw_at 830 (by decide +kernel) rfl
theorem ins_X10 : Cond.instantiable RX10 35 ∈ gw := gw_at 831 (by decide +kernel) rfl
theorem ml_L_12 : Cond.methodLink RL 12 yX10_init ∈ gw := gw_at 832 (by decide +kernel) rfl
theorem im_X10_init : Cond.instanceMethod yX10_init ∈ gw := gw_at 833 (by decide +kernel) rfl
theorem cd_X10_init : Cond.code yX10_init cX10_init 2 none ∈ gw := gw_in (tb_4 (List.mem_of_getElem? (i := 35) rfl)) rfl
theorem ml_X10_1 : Cond.methodLink RX10 1 objectInit ∈ gw := gw_at 835 (by decide +kernel) rfl
theorem fl_X10_75 : Cond.fieldLink RX10 75 "KindJudgeModel" "methods" "I" ∈ gw := gw_at 836 (by decide +kernel) rfl
theorem fl_X10_7 : Cond.fieldLink RX10 7 "KindJudgeModel" "params" "[I" ∈ gw := gw_at 837 (by decide +kernel) rfl
theorem fl_X10_13 : Cond.fieldLink RX10 13 "KindJudgeModel" "opMany" "[I" ∈ gw := gw_at 838 (by decide +kernel) rfl
theorem fl_X10_16 : Cond.fieldLink RX10 16 "KindJudgeModel" "ops" "[I" ∈ gw := gw_at 839 (by decide +kernel) rfl
theorem fl_X10_19 : Cond.fieldLink RX10 19 "KindJudgeModel" "as" "[J" ∈ gw := gw_at 840 (by decide +kernel) rfl
theorem fl_X10_23 : Cond.fieldLink RX10 23 "KindJudgeModel" "handlerMany" "[I" ∈ gw := gw_at 841 (by decide +kernel) rfl
theorem fl_X10_26 : Cond.fieldLink RX10 26 "KindJudgeModel" "handlers" "[I" ∈ gw := gw_at 842 (by decide +kernel) rfl
theorem fl_X10_29 : Cond.fieldLink RX10 29 "KindJudgeModel" "frameDepth" "[I" ∈ gw := gw_at 843 (by decide +kernel) rfl
theorem fl_X10_32 : Cond.fieldLink RX10 32 "KindJudgeModel" "frames" "[I" ∈ gw := gw_at 844 (by decide +kernel) rfl
theorem fl_X10_35 : Cond.fieldLink RX10 35 "KindJudgeModel" "isRight" "[Z" ∈ gw := gw_at 845 (by decide +kernel) rfl
theorem fl_X10_39 : Cond.fieldLink RX10 39 "KindJudgeModel" "seenDepth" "[I" ∈ gw := gw_at 846 (by decide +kernel) rfl
theorem fl_X10_42 : Cond.fieldLink RX10 42 "KindJudgeModel" "seen" "[I" ∈ gw := gw_at 847 (by decide +kernel) rfl
theorem fl_X10_225 : Cond.fieldLink RX10 225 "KindJudgeModel" "rounds" "I" ∈ gw := gw_at 848 (by decide +kernel) rfl
theorem fl_X10_45 : Cond.fieldLink RX10 45 "KindJudgeModel" "hand" "[I" ∈ gw := gw_at 849 (by decide +kernel) rfl
theorem fl_X10_145 : Cond.fieldLink RX10 145 "KindJudgeModel" "depth" "I" ∈ gw := gw_at 850 (by decide +kernel) rfl
theorem fl_X10_212 : Cond.fieldLink RX10 212 "KindJudgeModel" "hasChanged" "Z" ∈ gw := gw_at 851 (by decide +kernel) rfl
theorem fl_X10_48 : Cond.fieldLink RX10 48 "KindJudgeModel" "came" "[I" ∈ gw := gw_at 852 (by decide +kernel) rfl
theorem fl_X10_51 : Cond.fieldLink RX10 51 "KindJudgeModel" "places" "[J" ∈ gw := gw_at 853 (by decide +kernel) rfl
theorem fl_X10_54 : Cond.fieldLink RX10 54 "KindJudgeModel" "heights" "[I" ∈ gw := gw_at 854 (by decide +kernel) rfl
theorem fl_X10_57 : Cond.fieldLink RX10 57 "KindJudgeModel" "methodAt" "[I" ∈ gw := gw_at 855 (by decide +kernel) rfl
theorem fl_X10_60 : Cond.fieldLink RX10 60 "KindJudgeModel" "pcs" "[I" ∈ gw := gw_at 856 (by decide +kernel) rfl
theorem fl_X10_235 : Cond.fieldLink RX10 235 "KindJudgeModel" "frame" "I" ∈ gw := gw_at 857 (by decide +kernel) rfl
theorem fl_X10_248 : Cond.fieldLink RX10 248 "KindJudgeModel" "made" "I" ∈ gw := gw_at 858 (by decide +kernel) rfl
theorem fl_X10_63 : Cond.fieldLink RX10 63 "KindJudgeModel" "sorts" "[I" ∈ gw := gw_at 859 (by decide +kernel) rfl
theorem fl_X10_66 : Cond.fieldLink RX10 66 "KindJudgeModel" "sizes" "[I" ∈ gw := gw_at 860 (by decide +kernel) rfl
theorem fl_X10_69 : Cond.fieldLink RX10 69 "KindJudgeModel" "fields" "[I" ∈ gw := gw_at 861 (by decide +kernel) rfl
theorem fl_X10_72 : Cond.fieldLink RX10 72 "KindJudgeModel" "things" "[J" ∈ gw := gw_at 862 (by decide +kernel) rfl
theorem fl_X10_263 : Cond.fieldLink RX10 263 "KindJudgeModel" "answer" "I" ∈ gw := gw_at 863 (by decide +kernel) rfl
theorem fl_X10_251 : Cond.fieldLink RX10 251 "KindJudgeModel" "done" "I" ∈ gw := gw_at 864 (by decide +kernel) rfl
theorem fl_X10_254 : Cond.fieldLink RX10 254 "KindJudgeModel" "failures" "I" ∈ gw := gw_at 865 (by decide +kernel) rfl
theorem fl_X10_257 : Cond.fieldLink RX10 257 "KindJudgeModel" "failedIn" "I" ∈ gw := gw_at 866 (by decide +kernel) rfl
theorem fl_X10_260 : Cond.fieldLink RX10 260 "KindJudgeModel" "failedAt" "I" ∈ gw := gw_at 867 (by decide +kernel) rfl
theorem fl_X10_245 : Cond.fieldLink RX10 245 "KindJudgeModel" "hasRun" "Z" ∈ gw := gw_at 868 (by decide +kernel) rfl
theorem fl_X10_273 : Cond.fieldLink RX10 273 "KindJudgeModel" "failure" "I" ∈ gw := gw_at 869 (by decide +kernel) rfl
theorem ac_boolean : Cond.arrayClass .boolean ∈ gw := gw_at 941 (by decide +kernel) rfl
theorem ml_L_62 : Cond.methodLink RL 62 yX10_kinds ∈ gw := gw_at 942 (by decide +kernel) rfl
theorem im_X10_kinds : Cond.instanceMethod yX10_kinds ∈ gw := gw_at 943 (by decide +kernel) rfl
theorem se_X10_kinds : Cond.selects RX10 yX10_kinds yX10_kinds ∈ gw := gw_at 944 (by decide +kernel) rfl
theorem cd_X10_kinds : Cond.code yX10_kinds cX10_kinds 4 (some .int) ∈ gw := gw_in (tb_4 (List.mem_of_getElem? (i := 146) rfl)) rfl
theorem ml_X10_119 : Cond.methodLink RX10 119 yX10_isKind ∈ gw := gw_at 946 (by decide +kernel) rfl
theorem st_X10_isKind : Cond.static yX10_isKind ∈ gw := gw_at 947 (by decide +kernel) rfl
theorem cd_X10_isKind : Cond.code yX10_isKind cX10_isKind 1 (some .boolean) ∈ gw := gw_in (tb_4 (List.mem_of_getElem? (i := 149) rfl)) rfl
theorem kl_X10_102 : Cond.constantLong RX10 102 (5) ∈ gw := gw_at 949 (by decide +kernel) rfl
theorem ml_X10_79 : Cond.methodLink RX10 79 yX10_isIn ∈ gw := gw_at 950 (by decide +kernel) rfl
theorem st_X10_isIn : Cond.static yX10_isIn ∈ gw := gw_at 951 (by decide +kernel) rfl
theorem cd_X10_isIn : Cond.code yX10_isIn cX10_isIn 6 (some .boolean) ∈ gw := gw_in (tb_4 (List.mem_of_getElem? (i := 153) rfl)) rfl
theorem ml_X10_95 : Cond.methodLink RX10 95 yX10_isObject ∈ gw := gw_at 953 (by decide +kernel) rfl
theorem st_X10_isObject : Cond.static yX10_isObject ∈ gw := gw_at 954 (by decide +kernel) rfl
theorem cd_X10_isObject : Cond.code yX10_isObject cX10_isObject 1 (some .boolean) ∈ gw := gw_in (tb_4 (List.mem_of_getElem? (i := 156) rfl)) rfl
theorem kl_X10_87 : Cond.constantLong RX10 87 (10) ∈ gw := gw_at 956 (by decide +kernel) rfl
theorem kl_X10_89 : Cond.constantLong RX10 89 (17) ∈ gw := gw_at 957 (by decide +kernel) rfl
theorem ml_X10_99 : Cond.methodLink RX10 99 yX10_isRow ∈ gw := gw_at 958 (by decide +kernel) rfl
theorem st_X10_isRow : Cond.static yX10_isRow ∈ gw := gw_at 959 (by decide +kernel) rfl
theorem cd_X10_isRow : Cond.code yX10_isRow cX10_isRow 1 (some .boolean) ∈ gw := gw_in (tb_4 (List.mem_of_getElem? (i := 161) rfl)) rfl
theorem kl_X10_91 : Cond.constantLong RX10 91 (21) ∈ gw := gw_at 961 (by decide +kernel) rfl
theorem kl_X10_93 : Cond.constantLong RX10 93 (25) ∈ gw := gw_at 962 (by decide +kernel) rfl
theorem kl_X10_104 : Cond.constantLong RX10 104 (100) ∈ gw := gw_at 963 (by decide +kernel) rfl
theorem kl_X10_106 : Cond.constantLong RX10 106 (139) ∈ gw := gw_at 964 (by decide +kernel) rfl
theorem ml_X10_122 : Cond.methodLink RX10 122 yX10_joined ∈ gw := gw_at 965 (by decide +kernel) rfl
theorem st_X10_joined : Cond.static yX10_joined ∈ gw := gw_at 966 (by decide +kernel) rfl
theorem cd_X10_joined : Cond.code yX10_joined cX10_joined 2 (some .int) ∈ gw := gw_in (tb_4 (List.mem_of_getElem? (i := 168) rfl)) rfl
theorem ml_X10_108 : Cond.methodLink RX10 108 yX10_isThing ∈ gw := gw_at 968 (by decide +kernel) rfl
theorem st_X10_isThing : Cond.static yX10_isThing ∈ gw := gw_at 969 (by decide +kernel) rfl
theorem cd_X10_isThing : Cond.code yX10_isThing cX10_isThing 1 (some .boolean) ∈ gw := gw_in (tb_4 (List.mem_of_getElem? (i := 171) rfl)) rfl
theorem ml_X10_115 : Cond.methodLink RX10 115 yX10_common ∈ gw := gw_at 971 (by decide +kernel) rfl
theorem st_X10_common : Cond.static yX10_common ∈ gw := gw_at 972 (by decide +kernel) rfl
theorem cd_X10_common : Cond.code yX10_common cX10_common 3 (some .int) ∈ gw := gw_in (tb_4 (List.mem_of_getElem? (i := 174) rfl)) rfl
theorem ml_X10_111 : Cond.methodLink RX10 111 yX10_isUnder ∈ gw := gw_at 974 (by decide +kernel) rfl
theorem st_X10_isUnder : Cond.static yX10_isUnder ∈ gw := gw_at 975 (by decide +kernel) rfl
theorem cd_X10_isUnder : Cond.code yX10_isUnder cX10_isUnder 3 (some .boolean) ∈ gw := gw_in (tb_4 (List.mem_of_getElem? (i := 177) rfl)) rfl
theorem ml_X10_83 : Cond.methodLink RX10 83 yX10_above ∈ gw := gw_at 977 (by decide +kernel) rfl
theorem st_X10_above : Cond.static yX10_above ∈ gw := gw_at 978 (by decide +kernel) rfl
theorem cd_X10_above : Cond.code yX10_above cX10_above 1 (some .int) ∈ gw := gw_in (tb_4 (List.mem_of_getElem? (i := 180) rfl)) rfl
theorem ml_X10_125 : Cond.methodLink RX10 125 yX10_goes ∈ gw := gw_at 980 (by decide +kernel) rfl
theorem st_X10_goes : Cond.static yX10_goes ∈ gw := gw_at 981 (by decide +kernel) rfl
theorem cd_X10_goes : Cond.code yX10_goes cX10_goes 2 (some .boolean) ∈ gw := gw_in (tb_4 (List.mem_of_getElem? (i := 183) rfl)) rfl
theorem ml_L_17 : Cond.methodLink RL 17 yX10_method ∈ gw := gw_at 983 (by decide +kernel) rfl
theorem im_X10_method : Cond.instanceMethod yX10_method ∈ gw := gw_at 984 (by decide +kernel) rfl
theorem se_X10_method : Cond.selects RX10 yX10_method yX10_method ∈ gw := gw_at 985 (by decide +kernel) rfl
theorem cd_X10_method : Cond.code yX10_method cX10_method 3 (some .int) ∈ gw := gw_in (tb_4 (List.mem_of_getElem? (i := 187) rfl)) rfl
theorem kl_X10_128 : Cond.constantLong RX10 128 (4) ∈ gw := gw_at 987 (by decide +kernel) rfl
theorem ml_L_24 : Cond.methodLink RL 24 yX10_op ∈ gw := gw_at 988 (by decide +kernel) rfl
theorem im_X10_op : Cond.instanceMethod yX10_op ∈ gw := gw_at 989 (by decide +kernel) rfl
theorem se_X10_op : Cond.selects RX10 yX10_op yX10_op ∈ gw := gw_at 990 (by decide +kernel) rfl
theorem cd_X10_op : Cond.code yX10_op cX10_op 5 (some .int) ∈ gw := gw_in (tb_4 (List.mem_of_getElem? (i := 192) rfl)) rfl
theorem ml_X10_130 : Cond.methodLink RX10 130 yX10_isMethod ∈ gw := gw_at 992 (by decide +kernel) rfl
theorem im_X10_isMethod : Cond.instanceMethod yX10_isMethod ∈ gw := gw_at 994 (by decide +kernel) rfl
theorem cd_X10_isMethod : Cond.code yX10_isMethod cX10_isMethod 2 (some .boolean) ∈ gw := gw_in (tb_4 (List.mem_of_getElem? (i := 196) rfl)) rfl
theorem ml_X10_133 : Cond.methodLink RX10 133 yX10_changed ∈ gw := gw_at 996 (by decide +kernel) rfl
theorem im_X10_changed : Cond.instanceMethod yX10_changed ∈ gw := gw_at 998 (by decide +kernel) rfl
theorem cd_X10_changed : Cond.code yX10_changed cX10_changed 2 none ∈ gw := gw_in (tb_4 (List.mem_of_getElem? (i := 200) rfl)) rfl
theorem ml_L_29 : Cond.methodLink RL 29 yX10_handler ∈ gw := gw_at 1000 (by decide +kernel) rfl
theorem im_X10_handler : Cond.instanceMethod yX10_handler ∈ gw := gw_at 1001 (by decide +kernel) rfl
theorem se_X10_handler : Cond.selects RX10 yX10_handler yX10_handler ∈ gw := gw_at 1002 (by decide +kernel) rfl
theorem cd_X10_handler : Cond.code yX10_handler cX10_handler 7 (some .int) ∈ gw := gw_in (tb_4 (List.mem_of_getElem? (i := 204) rfl)) rfl
theorem kl_X10_137 : Cond.constantLong RX10 137 (39) ∈ gw := gw_at 1004 (by decide +kernel) rfl
theorem kl_X10_139 : Cond.constantLong RX10 139 (7) ∈ gw := gw_at 1005 (by decide +kernel) rfl
theorem ml_L_34 : Cond.methodLink RL 34 yX10_frame ∈ gw := gw_at 1006 (by decide +kernel) rfl
theorem im_X10_frame : Cond.instanceMethod yX10_frame ∈ gw := gw_at 1007 (by decide +kernel) rfl
theorem se_X10_frame : Cond.selects RX10 yX10_frame yX10_frame ∈ gw := gw_at 1008 (by decide +kernel) rfl
theorem cd_X10_frame : Cond.code yX10_frame cX10_frame 5 (some .int) ∈ gw := gw_in (tb_4 (List.mem_of_getElem? (i := 210) rfl)) rfl
theorem kl_X10_141 : Cond.constantLong RX10 141 (-1) ∈ gw := gw_at 1010 (by decide +kernel) rfl
theorem kl_X10_143 : Cond.constantLong RX10 143 (8) ∈ gw := gw_at 1011 (by decide +kernel) rfl
theorem ml_L_39 : Cond.methodLink RL 39 yX10_set ∈ gw := gw_at 1012 (by decide +kernel) rfl
theorem im_X10_set : Cond.instanceMethod yX10_set ∈ gw := gw_at 1013 (by decide +kernel) rfl
theorem se_X10_set : Cond.selects RX10 yX10_set yX10_set ∈ gw := gw_at 1014 (by decide +kernel) rfl
theorem cd_X10_set : Cond.code yX10_set cX10_set 7 (some .int) ∈ gw := gw_in (tb_4 (List.mem_of_getElem? (i := 216) rfl)) rfl
theorem ml_L_43 : Cond.methodLink RL 43 yX10_judge ∈ gw := gw_at 1016 (by decide +kernel) rfl
theorem im_X10_judge : Cond.instanceMethod yX10_judge ∈ gw := gw_at 1017 (by decide +kernel) rfl
theorem se_X10_judge : Cond.selects RX10 yX10_judge yX10_judge ∈ gw := gw_at 1018 (by decide +kernel) rfl
theorem cd_X10_judge : Cond.code yX10_judge cX10_judge 3 (some .int) ∈ gw := gw_in (tb_4 (List.mem_of_getElem? (i := 220) rfl)) rfl
theorem ml_X10_209 : Cond.methodLink RX10 209 yX10_wrongByFrames ∈ gw := gw_at 1020 (by decide +kernel) rfl
theorem im_X10_wrongByFrames : Cond.instanceMethod yX10_wrongByFrames ∈ gw := gw_at 1022 (by decide +kernel) rfl
theorem cd_X10_wrongByFrames : Cond.code yX10_wrongByFrames cX10_wrongByFrames 6 (some .int) ∈ gw := gw_in (tb_4 (List.mem_of_getElem? (i := 224) rfl)) rfl
theorem ml_X10_188 : Cond.methodLink RX10 188 yX10_begins ∈ gw := gw_at 1024 (by decide +kernel) rfl
theorem im_X10_begins : Cond.instanceMethod yX10_begins ∈ gw := gw_at 1026 (by decide +kernel) rfl
theorem cd_X10_begins : Cond.code yX10_begins cX10_begins 3 none ∈ gw := gw_in (tb_4 (List.mem_of_getElem? (i := 228) rfl)) rfl
theorem ml_X10_191 : Cond.methodLink RX10 191 yX10_goesToFrame ∈ gw := gw_at 1028 (by decide +kernel) rfl
theorem im_X10_goesToFrame : Cond.instanceMethod yX10_goesToFrame ∈ gw := gw_at 1030 (by decide +kernel) rfl
theorem cd_X10_goesToFrame : Cond.code yX10_goesToFrame cX10_goesToFrame 6 (some .boolean) ∈ gw := gw_in (tb_4 (List.mem_of_getElem? (i := 232) rfl)) rfl
theorem ml_X10_194 : Cond.methodLink RX10 194 yX10_sees ∈ gw := gw_at 1032 (by decide +kernel) rfl
theorem im_X10_sees : Cond.instanceMethod yX10_sees ∈ gw := gw_at 1034 (by decide +kernel) rfl
theorem cd_X10_sees : Cond.code yX10_sees cX10_sees 3 none ∈ gw := gw_in (tb_4 (List.mem_of_getElem? (i := 236) rfl)) rfl
theorem ml_X10_197 : Cond.methodLink RX10 197 yX10_handlersFit ∈ gw := gw_at 1036 (by decide +kernel) rfl
theorem im_X10_handlersFit : Cond.instanceMethod yX10_handlersFit ∈ gw := gw_at 1038 (by decide +kernel) rfl
theorem cd_X10_handlersFit : Cond.code yX10_handlersFit cX10_handlersFit 8 (some .boolean) ∈ gw := gw_in (tb_5 (List.mem_of_getElem? (i := 0) rfl)) rfl
theorem ml_X10_200 : Cond.methodLink RX10 200 yX10_does ∈ gw := gw_at 1040 (by decide +kernel) rfl
theorem im_X10_does : Cond.instanceMethod yX10_does ∈ gw := gw_at 1042 (by decide +kernel) rfl
theorem cd_X10_does : Cond.code yX10_does cX10_does 6 (some .boolean) ∈ gw := gw_in (tb_5 (List.mem_of_getElem? (i := 4) rfl)) rfl
theorem ml_X10_148 : Cond.methodLink RX10 148 yX10_push ∈ gw := gw_at 1044 (by decide +kernel) rfl
theorem im_X10_push : Cond.instanceMethod yX10_push ∈ gw := gw_at 1046 (by decide +kernel) rfl
theorem cd_X10_push : Cond.code yX10_push cX10_push 2 (some .boolean) ∈ gw := gw_in (tb_5 (List.mem_of_getElem? (i := 8) rfl)) rfl
theorem ml_X10_154 : Cond.methodLink RX10 154 yX10_pushLong ∈ gw := gw_at 1048 (by decide +kernel) rfl
theorem im_X10_pushLong : Cond.instanceMethod yX10_pushLong ∈ gw := gw_at 1050 (by decide +kernel) rfl
theorem cd_X10_pushLong : Cond.code yX10_pushLong cX10_pushLong 1 (some .boolean) ∈ gw := gw_in (tb_5 (List.mem_of_getElem? (i := 12) rfl)) rfl
theorem ml_X10_151 : Cond.methodLink RX10 151 yX10_isOnePlace ∈ gw := gw_at 1052 (by decide +kernel) rfl
theorem st_X10_isOnePlace : Cond.static yX10_isOnePlace ∈ gw := gw_at 1053 (by decide +kernel) rfl
theorem cd_X10_isOnePlace : Cond.code yX10_isOnePlace cX10_isOnePlace 1 (some .boolean) ∈ gw := gw_in (tb_5 (List.mem_of_getElem? (i := 15) rfl)) rfl
theorem ml_X10_158 : Cond.methodLink RX10 158 yX10_isOneOnTop ∈ gw := gw_at 1055 (by decide +kernel) rfl
theorem im_X10_isOneOnTop : Cond.instanceMethod yX10_isOneOnTop ∈ gw := gw_at 1057 (by decide +kernel) rfl
theorem cd_X10_isOneOnTop : Cond.code yX10_isOneOnTop cX10_isOneOnTop 2 (some .boolean) ∈ gw := gw_in (tb_5 (List.mem_of_getElem? (i := 19) rfl)) rfl
theorem ml_X10_161 : Cond.methodLink RX10 161 yX10_local ∈ gw := gw_at 1059 (by decide +kernel) rfl
theorem im_X10_local : Cond.instanceMethod yX10_local ∈ gw := gw_at 1061 (by decide +kernel) rfl
theorem cd_X10_local : Cond.code yX10_local cX10_local 3 none ∈ gw := gw_in (tb_5 (List.mem_of_getElem? (i := 23) rfl)) rfl
theorem kl_X10_165 : Cond.constantLong RX10 165 (6) ∈ gw := gw_at 1063 (by decide +kernel) rfl
theorem ml_X10_167 : Cond.methodLink RX10 167 yX10_popLong ∈ gw := gw_at 1064 (by decide +kernel) rfl
theorem im_X10_popLong : Cond.instanceMethod yX10_popLong ∈ gw := gw_at 1066 (by decide +kernel) rfl
theorem cd_X10_popLong : Cond.code yX10_popLong cX10_popLong 1 (some .boolean) ∈ gw := gw_in (tb_5 (List.mem_of_getElem? (i := 28) rfl)) rfl
theorem ml_X10_170 : Cond.methodLink RX10 170 yX10_pop ∈ gw := gw_at 1068 (by decide +kernel) rfl
end
section
theorem im_X10_pop : Cond.instanceMethod yX10_pop ∈ gw := gw_at 1070 (by decide +kernel) rfl
theorem cd_X10_pop : Cond.code yX10_pop cX10_pop 2 (some .boolean) ∈ gw := gw_in (tb_5 (List.mem_of_getElem? (i := 32) rfl)) rfl
theorem ml_X10_173 : Cond.methodLink RX10 173 yX10_isNew ∈ gw := gw_at 1072 (by decide +kernel) rfl
theorem im_X10_isNew : Cond.instanceMethod yX10_isNew ∈ gw := gw_at 1074 (by decide +kernel) rfl
theorem cd_X10_isNew : Cond.code yX10_isNew cX10_isNew 5 (some .boolean) ∈ gw := gw_in (tb_5 (List.mem_of_getElem? (i := 36) rfl)) rfl
theorem ml_X10_177 : Cond.methodLink RX10 177 yX10_isMade ∈ gw := gw_at 1076 (by decide +kernel) rfl
theorem im_X10_isMade : Cond.instanceMethod yX10_isMade ∈ gw := gw_at 1078 (by decide +kernel) rfl
theorem cd_X10_isMade : Cond.code yX10_isMade cX10_isMade 7 (some .boolean) ∈ gw := gw_in (tb_5 (List.mem_of_getElem? (i := 40) rfl)) rfl
theorem ml_X10_180 : Cond.methodLink RX10 180 yX10_doesMore ∈ gw := gw_at 1080 (by decide +kernel) rfl
theorem im_X10_doesMore : Cond.instanceMethod yX10_doesMore ∈ gw := gw_at 1082 (by decide +kernel) rfl
theorem cd_X10_doesMore : Cond.code yX10_doesMore cX10_doesMore 10 (some .boolean) ∈ gw := gw_in (tb_5 (List.mem_of_getElem? (i := 44) rfl)) rfl
theorem ml_X10_203 : Cond.methodLink RX10 203 yX10_leads ∈ gw := gw_at 1084 (by decide +kernel) rfl
theorem st_X10_leads : Cond.static yX10_leads ∈ gw := gw_at 1085 (by decide +kernel) rfl
theorem cd_X10_leads : Cond.code yX10_leads cX10_leads 1 (some .boolean) ∈ gw := gw_in (tb_5 (List.mem_of_getElem? (i := 47) rfl)) rfl
theorem kl_X10_184 : Cond.constantLong RX10 184 (29) ∈ gw := gw_at 1087 (by decide +kernel) rfl
theorem kl_X10_186 : Cond.constantLong RX10 186 (31) ∈ gw := gw_at 1088 (by decide +kernel) rfl
theorem ml_X10_206 : Cond.methodLink RX10 206 yX10_isLast ∈ gw := gw_at 1089 (by decide +kernel) rfl
theorem st_X10_isLast : Cond.static yX10_isLast ∈ gw := gw_at 1090 (by decide +kernel) rfl
theorem cd_X10_isLast : Cond.code yX10_isLast cX10_isLast 1 (some .boolean) ∈ gw := gw_in (tb_5 (List.mem_of_getElem? (i := 52) rfl)) rfl
theorem ml_L_47 : Cond.methodLink RL 47 yX10_join ∈ gw := gw_at 1092 (by decide +kernel) rfl
theorem im_X10_join : Cond.instanceMethod yX10_join ∈ gw := gw_at 1093 (by decide +kernel) rfl
theorem se_X10_join : Cond.selects RX10 yX10_join yX10_join ∈ gw := gw_at 1094 (by decide +kernel) rfl
theorem cd_X10_join : Cond.code yX10_join cX10_join 3 (some .int) ∈ gw := gw_in (tb_5 (List.mem_of_getElem? (i := 56) rfl)) rfl
theorem ml_X10_231 : Cond.methodLink RX10 231 yX10_wrongJoined ∈ gw := gw_at 1096 (by decide +kernel) rfl
theorem im_X10_wrongJoined : Cond.instanceMethod yX10_wrongJoined ∈ gw := gw_at 1098 (by decide +kernel) rfl
theorem cd_X10_wrongJoined : Cond.code yX10_wrongJoined cX10_wrongJoined 4 (some .int) ∈ gw := gw_in (tb_5 (List.mem_of_getElem? (i := 60) rfl)) rfl
theorem ml_X10_228 : Cond.methodLink RX10 228 yX10_goesOn ∈ gw := gw_at 1100 (by decide +kernel) rfl
theorem im_X10_goesOn : Cond.instanceMethod yX10_goesOn ∈ gw := gw_at 1102 (by decide +kernel) rfl
theorem cd_X10_goesOn : Cond.code yX10_goesOn cX10_goesOn 7 (some .boolean) ∈ gw := gw_in (tb_5 (List.mem_of_getElem? (i := 64) rfl)) rfl
theorem ml_X10_216 : Cond.methodLink RX10 216 yX10_takes ∈ gw := gw_at 1104 (by decide +kernel) rfl
theorem im_X10_takes : Cond.instanceMethod yX10_takes ∈ gw := gw_at 1106 (by decide +kernel) rfl
theorem cd_X10_takes : Cond.code yX10_takes cX10_takes 3 none ∈ gw := gw_in (tb_5 (List.mem_of_getElem? (i := 68) rfl)) rfl
theorem ml_X10_219 : Cond.methodLink RX10 219 yX10_comesTo ∈ gw := gw_at 1108 (by decide +kernel) rfl
theorem im_X10_comesTo : Cond.instanceMethod yX10_comesTo ∈ gw := gw_at 1110 (by decide +kernel) rfl
theorem cd_X10_comesTo : Cond.code yX10_comesTo cX10_comesTo 5 (some .boolean) ∈ gw := gw_in (tb_5 (List.mem_of_getElem? (i := 72) rfl)) rfl
theorem ml_X10_222 : Cond.methodLink RX10 222 yX10_ahead ∈ gw := gw_at 1112 (by decide +kernel) rfl
theorem im_X10_ahead : Cond.instanceMethod yX10_ahead ∈ gw := gw_at 1114 (by decide +kernel) rfl
theorem cd_X10_ahead : Cond.code yX10_ahead cX10_ahead 3 none ∈ gw := gw_in (tb_5 (List.mem_of_getElem? (i := 76) rfl)) rfl
theorem ml_L_52 : Cond.methodLink RL 52 yX10_kind ∈ gw := gw_at 1116 (by decide +kernel) rfl
theorem im_X10_kind : Cond.instanceMethod yX10_kind ∈ gw := gw_at 1117 (by decide +kernel) rfl
theorem se_X10_kind : Cond.selects RX10 yX10_kind yX10_kind ∈ gw := gw_at 1118 (by decide +kernel) rfl
theorem cd_X10_kind : Cond.code yX10_kind cX10_kind 3 (some .int) ∈ gw := gw_in (tb_5 (List.mem_of_getElem? (i := 80) rfl)) rfl
theorem ki_X10_234 : Cond.constant RX10 234 (-99999999) ∈ gw := gw_at 1120 (by decide +kernel) rfl
theorem ml_L_57 : Cond.methodLink RL 57 yX10_rounds ∈ gw := gw_at 1121 (by decide +kernel) rfl
theorem im_X10_rounds : Cond.instanceMethod yX10_rounds ∈ gw := gw_at 1122 (by decide +kernel) rfl
theorem se_X10_rounds : Cond.selects RX10 yX10_rounds yX10_rounds ∈ gw := gw_at 1123 (by decide +kernel) rfl
theorem cd_X10_rounds : Cond.code yX10_rounds cX10_rounds 1 (some .int) ∈ gw := gw_in (tb_5 (List.mem_of_getElem? (i := 85) rfl)) rfl
theorem ml_L_66 : Cond.methodLink RL 66 yX10_run ∈ gw := gw_at 1125 (by decide +kernel) rfl
theorem im_X10_run : Cond.instanceMethod yX10_run ∈ gw := gw_at 1126 (by decide +kernel) rfl
theorem se_X10_run : Cond.selects RX10 yX10_run yX10_run ∈ gw := gw_at 1127 (by decide +kernel) rfl
theorem cd_X10_run : Cond.code yX10_run cX10_run 7 (some .int) ∈ gw := gw_in (tb_5 (List.mem_of_getElem? (i := 89) rfl)) rfl
theorem ml_X10_242 : Cond.methodLink RX10 242 yX10_areRight ∈ gw := gw_at 1129 (by decide +kernel) rfl
theorem im_X10_areRight : Cond.instanceMethod yX10_areRight ∈ gw := gw_at 1131 (by decide +kernel) rfl
theorem cd_X10_areRight : Cond.code yX10_areRight cX10_areRight 5 (some .boolean) ∈ gw := gw_in (tb_5 (List.mem_of_getElem? (i := 93) rfl)) rfl
theorem ml_X10_266 : Cond.methodLink RX10 266 yX10_works ∈ gw := gw_at 1133 (by decide +kernel) rfl
theorem im_X10_works : Cond.instanceMethod yX10_works ∈ gw := gw_at 1135 (by decide +kernel) rfl
theorem cd_X10_works : Cond.code yX10_works cX10_works 7 (some .int) ∈ gw := gw_in (tb_5 (List.mem_of_getElem? (i := 97) rfl)) rfl
theorem ml_X10_280 : Cond.methodLink RX10 280 yX10_simple ∈ gw := gw_at 1137 (by decide +kernel) rfl
theorem im_X10_simple : Cond.instanceMethod yX10_simple ∈ gw := gw_at 1139 (by decide +kernel) rfl
theorem cd_X10_simple : Cond.code yX10_simple cX10_simple 17 (some .int) ∈ gw := gw_in (tb_5 (List.mem_of_getElem? (i := 101) rfl)) rfl
theorem ml_X10_238 : Cond.methodLink RX10 238 yX10_put ∈ gw := gw_at 1141 (by decide +kernel) rfl
theorem im_X10_put : Cond.instanceMethod yX10_put ∈ gw := gw_at 1143 (by decide +kernel) rfl
theorem cd_X10_put : Cond.code yX10_put cX10_put 3 none ∈ gw := gw_in (tb_5 (List.mem_of_getElem? (i := 105) rfl)) rfl
theorem ml_X10_290 : Cond.methodLink RX10 290 yX10_putLong ∈ gw := gw_at 1145 (by decide +kernel) rfl
theorem im_X10_putLong : Cond.instanceMethod yX10_putLong ∈ gw := gw_at 1147 (by decide +kernel) rfl
theorem cd_X10_putLong : Cond.code yX10_putLong cX10_putLong 3 none ∈ gw := gw_in (tb_5 (List.mem_of_getElem? (i := 109) rfl)) rfl
theorem ml_X10_293 : Cond.methodLink RX10 293 yX10_take ∈ gw := gw_at 1149 (by decide +kernel) rfl
theorem im_X10_take : Cond.instanceMethod yX10_take ∈ gw := gw_at 1151 (by decide +kernel) rfl
theorem cd_X10_take : Cond.code yX10_take cX10_take 1 (some .long) ∈ gw := gw_in (tb_5 (List.mem_of_getElem? (i := 113) rfl)) rfl
theorem ml_X10_297 : Cond.methodLink RX10 297 yX10_takeLong ∈ gw := gw_at 1153 (by decide +kernel) rfl
theorem im_X10_takeLong : Cond.instanceMethod yX10_takeLong ∈ gw := gw_at 1155 (by decide +kernel) rfl
theorem cd_X10_takeLong : Cond.code yX10_takeLong cX10_takeLong 1 (some .long) ∈ gw := gw_in (tb_5 (List.mem_of_getElem? (i := 117) rfl)) rfl
theorem kl_X10_276 : Cond.constantLong RX10 276 (2) ∈ gw := gw_at 1157 (by decide +kernel) rfl
theorem ml_X10_300 : Cond.methodLink RX10 300 yX10_arith ∈ gw := gw_at 1158 (by decide +kernel) rfl
theorem st_X10_arith : Cond.static yX10_arith ∈ gw := gw_at 1159 (by decide +kernel) rfl
theorem cd_X10_arith : Cond.code yX10_arith cX10_arith 4 (some .int) ∈ gw := gw_in (tb_5 (List.mem_of_getElem? (i := 121) rfl)) rfl
theorem kl_X10_278 : Cond.constantLong RX10 278 (3) ∈ gw := gw_at 1161 (by decide +kernel) rfl
theorem ml_X10_304 : Cond.methodLink RX10 304 yX10_arithLong ∈ gw := gw_at 1162 (by decide +kernel) rfl
theorem st_X10_arithLong : Cond.static yX10_arithLong ∈ gw := gw_at 1163 (by decide +kernel) rfl
theorem cd_X10_arithLong : Cond.code yX10_arithLong cX10_arithLong 6 (some .long) ∈ gw := gw_in (tb_5 (List.mem_of_getElem? (i := 125) rfl)) rfl
theorem ml_X10_308 : Cond.methodLink RX10 308 yX10_make ∈ gw := gw_at 1165 (by decide +kernel) rfl
theorem im_X10_make : Cond.instanceMethod yX10_make ∈ gw := gw_at 1167 (by decide +kernel) rfl
theorem cd_X10_make : Cond.code yX10_make cX10_make 4 (some .int) ∈ gw := gw_in (tb_5 (List.mem_of_getElem? (i := 129) rfl)) rfl
theorem ml_X10_284 : Cond.methodLink RX10 284 yX10_ofThings ∈ gw := gw_at 1169 (by decide +kernel) rfl
theorem im_X10_ofThings : Cond.instanceMethod yX10_ofThings ∈ gw := gw_at 1171 (by decide +kernel) rfl
theorem cd_X10_ofThings : Cond.code yX10_ofThings cX10_ofThings 9 (some .int) ∈ gw := gw_in (tb_5 (List.mem_of_getElem? (i := 133) rfl)) rfl
theorem ml_X10_311 : Cond.methodLink RX10 311 yX10_isOf ∈ gw := gw_at 1173 (by decide +kernel) rfl
theorem im_X10_isOf : Cond.instanceMethod yX10_isOf ∈ gw := gw_at 1175 (by decide +kernel) rfl
theorem cd_X10_isOf : Cond.code yX10_isOf cX10_isOf 3 (some .boolean) ∈ gw := gw_in (tb_5 (List.mem_of_getElem? (i := 137) rfl)) rfl
theorem ml_X10_314 : Cond.methodLink RX10 314 yX10_worth ∈ gw := gw_at 1177 (by decide +kernel) rfl
theorem im_X10_worth : Cond.instanceMethod yX10_worth ∈ gw := gw_at 1179 (by decide +kernel) rfl
theorem cd_X10_worth : Cond.code yX10_worth cX10_worth 5 (some .int) ∈ gw := gw_in (tb_5 (List.mem_of_getElem? (i := 141) rfl)) rfl
theorem ml_X10_287 : Cond.methodLink RX10 287 yX10_others ∈ gw := gw_at 1181 (by decide +kernel) rfl
theorem im_X10_others : Cond.instanceMethod yX10_others ∈ gw := gw_at 1183 (by decide +kernel) rfl
theorem cd_X10_others : Cond.code yX10_others cX10_others 7 (some .int) ∈ gw := gw_in (tb_5 (List.mem_of_getElem? (i := 145) rfl)) rfl
theorem ml_X10_317 : Cond.methodLink RX10 317 yX10_calls ∈ gw := gw_at 1185 (by decide +kernel) rfl
theorem im_X10_calls : Cond.instanceMethod yX10_calls ∈ gw := gw_at 1187 (by decide +kernel) rfl
theorem cd_X10_calls : Cond.code yX10_calls cX10_calls 3 none ∈ gw := gw_in (tb_5 (List.mem_of_getElem? (i := 149) rfl)) rfl
theorem ml_X10_270 : Cond.methodLink RX10 270 yX10_after ∈ gw := gw_at 1189 (by decide +kernel) rfl
theorem im_X10_after : Cond.instanceMethod yX10_after ∈ gw := gw_at 1191 (by decide +kernel) rfl
theorem cd_X10_after : Cond.code yX10_after cX10_after 7 (some .int) ∈ gw := gw_in (tb_5 (List.mem_of_getElem? (i := 153) rfl)) rfl
theorem ml_L_70 : Cond.methodLink RL 70 yX10_answer ∈ gw := gw_at 1193 (by decide +kernel) rfl
theorem im_X10_answer : Cond.instanceMethod yX10_answer ∈ gw := gw_at 1194 (by decide +kernel) rfl
theorem se_X10_answer : Cond.selects RX10 yX10_answer yX10_answer ∈ gw := gw_at 1195 (by decide +kernel) rfl
theorem cd_X10_answer : Cond.code yX10_answer cX10_answer 1 (some .int) ∈ gw := gw_in (tb_5 (List.mem_of_getElem? (i := 157) rfl)) rfl
theorem ml_L_74 : Cond.methodLink RL 74 yX10_told ∈ gw := gw_at 1197 (by decide +kernel) rfl
theorem im_X10_told : Cond.instanceMethod yX10_told ∈ gw := gw_at 1198 (by decide +kernel) rfl
theorem se_X10_told : Cond.selects RX10 yX10_told yX10_told ∈ gw := gw_at 1199 (by decide +kernel) rfl
theorem cd_X10_told : Cond.code yX10_told cX10_told 2 (some .int) ∈ gw := gw_in (tb_5 (List.mem_of_getElem? (i := 161) rfl)) rfl
theorem ml_L_78 : Cond.methodLink RL 78 yX10_count ∈ gw := gw_at 1201 (by decide +kernel) rfl
theorem im_X10_count : Cond.instanceMethod yX10_count ∈ gw := gw_at 1202 (by decide +kernel) rfl
theorem se_X10_count : Cond.selects RX10 yX10_count yX10_count ∈ gw := gw_at 1203 (by decide +kernel) rfl
theorem cd_X10_count : Cond.code yX10_count cX10_count 3 (some .int) ∈ gw := gw_in (tb_5 (List.mem_of_getElem? (i := 165) rfl)) rfl
theorem kl_L_18 : Cond.constantLong RL 18 (4294967295) ∈ gw := gw_at 1205 (by decide +kernel) rfl
theorem se_X2_forget : Cond.selects RX2 yX2_forget yX2_forget ∈ gw := gw_at 0 (by decide +kernel) rfl
theorem se_X8_moves : Cond.selects RX8 yX8_moves yX8_moves ∈ gw := gw_at 1 (by decide +kernel) rfl
theorem se_X8_stores : Cond.selects RX8 yX8_stores yX8_stores ∈ gw := gw_at 2 (by decide +kernel) rfl
theorem se_X8_holdsLong : Cond.selects RX8 yX8_holdsLong yX8_holdsLong ∈ gw := gw_at 3 (by decide +kernel) rfl
theorem se_X8_storesLong : Cond.selects RX8 yX8_storesLong yX8_storesLong ∈ gw := gw_at 4 (by decide +kernel) rfl
theorem se_X8_reckons : Cond.selects RX8 yX8_reckons yX8_reckons ∈ gw := gw_at 5 (by decide +kernel) rfl
theorem se_X8_begins : Cond.selects RX8 yX8_begins yX8_begins ∈ gw := gw_at 6 (by decide +kernel) rfl
theorem se_X8_finishes : Cond.selects RX8 yX8_finishes yX8_finishes ∈ gw := gw_at 7 (by decide +kernel) rfl
theorem se_X8_usesArray : Cond.selects RX8 yX8_usesArray yX8_usesArray ∈ gw := gw_at 8 (by decide +kernel) rfl
theorem se_X8_takes : Cond.selects RX8 yX8_takes yX8_takes ∈ gw := gw_at 9 (by decide +kernel) rfl
theorem se_X8_usesObject : Cond.selects RX8 yX8_usesObject yX8_usesObject ∈ gw := gw_at 10 (by decide +kernel) rfl
theorem se_X8_turns : Cond.selects RX8 yX8_turns yX8_turns ∈ gw := gw_at 11 (by decide +kernel) rfl
theorem se_X8_calls : Cond.selects RX8 yX8_calls yX8_calls ∈ gw := gw_at 12 (by decide +kernel) rfl
theorem se_X8_goesElsewhere : Cond.selects RX8 yX8_goesElsewhere yX8_goesElsewhere ∈ gw := gw_at 13 (by decide +kernel) rfl
theorem se_X2_leadsToFrame : Cond.selects RX2 yX2_leadsToFrame yX2_leadsToFrame ∈ gw := gw_at 14 (by decide +kernel) rfl
theorem se_X2_handlersFit : Cond.selects RX2 yX2_handlersFit yX2_handlersFit ∈ gw := gw_at 15 (by decide +kernel) rfl
theorem se_X2_arrives : Cond.selects RX2 yX2_arrives yX2_arrives ∈ gw := gw_at 16 (by decide +kernel) rfl
theorem se_X2_handsOn : Cond.selects RX2 yX2_handsOn yX2_handsOn ∈ gw := gw_at 17 (by decide +kernel) rfl
theorem se_X4_enter : Cond.selects RX4 yX4_enter yX4_enter ∈ gw := gw_at 18 (by decide +kernel) rfl
theorem se_X4_doNext : Cond.selects RX4 yX4_doNext yX4_doNext ∈ gw := gw_at 19 (by decide +kernel) rfl
theorem se_X4_does : Cond.selects RX4 yX4_does yX4_does ∈ gw := gw_at 20 (by decide +kernel) rfl
theorem se_X4_moves : Cond.selects RX4 yX4_moves yX4_moves ∈ gw := gw_at 21 (by decide +kernel) rfl
theorem se_X4_push : Cond.selects RX4 yX4_push yX4_push ∈ gw := gw_at 22 (by decide +kernel) rfl
theorem se_X4_pushLong : Cond.selects RX4 yX4_pushLong yX4_pushLong ∈ gw := gw_at 23 (by decide +kernel) rfl
theorem se_X4_pop : Cond.selects RX4 yX4_pop yX4_pop ∈ gw := gw_at 24 (by decide +kernel) rfl
theorem se_X4_popLong : Cond.selects RX4 yX4_popLong yX4_popLong ∈ gw := gw_at 25 (by decide +kernel) rfl
theorem se_X4_reckons : Cond.selects RX4 yX4_reckons yX4_reckons ∈ gw := gw_at 26 (by decide +kernel) rfl
theorem se_X4_relatesInts : Cond.selects RX4 yX4_relatesInts yX4_relatesInts ∈ gw := gw_at 27 (by decide +kernel) rfl
theorem se_X4_popInt : Cond.selects RX4 yX4_popInt yX4_popInt ∈ gw := gw_at 28 (by decide +kernel) rfl
theorem se_X4_relatesLongs : Cond.selects RX4 yX4_relatesLongs yX4_relatesLongs ∈ gw := gw_at 29 (by decide +kernel) rfl
theorem se_X4_makes : Cond.selects RX4 yX4_makes yX4_makes ∈ gw := gw_at 30 (by decide +kernel) rfl
theorem se_X4_pushNew : Cond.selects RX4 yX4_pushNew yX4_pushNew ∈ gw := gw_at 31 (by decide +kernel) rfl
theorem se_X4_end : Cond.selects RX4 yX4_end yX4_end ∈ gw := gw_at 32 (by decide +kernel) rfl
theorem se_X4_usesArray : Cond.selects RX4 yX4_usesArray yX4_usesArray ∈ gw := gw_at 33 (by decide +kernel) rfl
theorem se_X4_asks : Cond.selects RX4 yX4_asks yX4_asks ∈ gw := gw_at 34 (by decide +kernel) rfl
theorem se_X4_usesObject : Cond.selects RX4 yX4_usesObject yX4_usesObject ∈ gw := gw_at 35 (by decide +kernel) rfl
theorem se_X4_turns : Cond.selects RX4 yX4_turns yX4_turns ∈ gw := gw_at 36 (by decide +kernel) rfl
theorem se_X4_leads : Cond.selects RX4 yX4_leads yX4_leads ∈ gw := gw_at 37 (by decide +kernel) rfl
theorem se_X4_jumpsIf : Cond.selects RX4 yX4_jumpsIf yX4_jumpsIf ∈ gw := gw_at 38 (by decide +kernel) rfl
theorem se_X4_returns : Cond.selects RX4 yX4_returns yX4_returns ∈ gw := gw_at 39 (by decide +kernel) rfl
theorem se_X4_calls : Cond.selects RX4 yX4_calls yX4_calls ∈ gw := gw_at 40 (by decide +kernel) rfl
theorem se_X4_arises : Cond.selects RX4 yX4_arises yX4_arises ∈ gw := gw_at 41 (by decide +kernel) rfl
theorem se_X4_catches : Cond.selects RX4 yX4_catches yX4_catches ∈ gw := gw_at 42 (by decide +kernel) rfl
theorem se_X10_isMethod : Cond.selects RX10 yX10_isMethod yX10_isMethod ∈ gw := gw_at 43 (by decide +kernel) rfl
theorem se_X10_changed : Cond.selects RX10 yX10_changed yX10_changed ∈ gw := gw_at 44 (by decide +kernel) rfl
theorem se_X10_wrongByFrames : Cond.selects RX10 yX10_wrongByFrames yX10_wrongByFrames ∈ gw := gw_at 45 (by decide +kernel) rfl
theorem se_X10_begins : Cond.selects RX10 yX10_begins yX10_begins ∈ gw := gw_at 46 (by decide +kernel) rfl
theorem se_X10_goesToFrame : Cond.selects RX10 yX10_goesToFrame yX10_goesToFrame ∈ gw := gw_at 47 (by decide +kernel) rfl
theorem se_X10_sees : Cond.selects RX10 yX10_sees yX10_sees ∈ gw := gw_at 48 (by decide +kernel) rfl
theorem se_X10_handlersFit : Cond.selects RX10 yX10_handlersFit yX10_handlersFit ∈ gw := gw_at 49 (by decide +kernel) rfl
theorem se_X10_does : Cond.selects RX10 yX10_does yX10_does ∈ gw := gw_at 50 (by decide +kernel) rfl
theorem se_X10_push : Cond.selects RX10 yX10_push yX10_push ∈ gw := gw_at 51 (by decide +kernel) rfl
theorem se_X10_pushLong : Cond.selects RX10 yX10_pushLong yX10_pushLong ∈ gw := gw_at 52 (by decide +kernel) rfl
theorem se_X10_isOneOnTop : Cond.selects RX10 yX10_isOneOnTop yX10_isOneOnTop ∈ gw := gw_at 53 (by decide +kernel) rfl
theorem se_X10_local : Cond.selects RX10 yX10_local yX10_local ∈ gw := gw_at 54 (by decide +kernel) rfl
theorem se_X10_popLong : Cond.selects RX10 yX10_popLong yX10_popLong ∈ gw := gw_at 55 (by decide +kernel) rfl
theorem se_X10_pop : Cond.selects RX10 yX10_pop yX10_pop ∈ gw := gw_at 56 (by decide +kernel) rfl
theorem se_X10_isNew : Cond.selects RX10 yX10_isNew yX10_isNew ∈ gw := gw_at 57 (by decide +kernel) rfl
theorem se_X10_isMade : Cond.selects RX10 yX10_isMade yX10_isMade ∈ gw := gw_at 58 (by decide +kernel) rfl
theorem se_X10_doesMore : Cond.selects RX10 yX10_doesMore yX10_doesMore ∈ gw := gw_at 59 (by decide +kernel) rfl
theorem se_X10_wrongJoined : Cond.selects RX10 yX10_wrongJoined yX10_wrongJoined ∈ gw := gw_at 60 (by decide +kernel) rfl
theorem se_X10_goesOn : Cond.selects RX10 yX10_goesOn yX10_goesOn ∈ gw := gw_at 61 (by decide +kernel) rfl
theorem se_X10_takes : Cond.selects RX10 yX10_takes yX10_takes ∈ gw := gw_at 62 (by decide +kernel) rfl
theorem se_X10_comesTo : Cond.selects RX10 yX10_comesTo yX10_comesTo ∈ gw := gw_at 63 (by decide +kernel) rfl
theorem se_X10_ahead : Cond.selects RX10 yX10_ahead yX10_ahead ∈ gw := gw_at 64 (by decide +kernel) rfl
theorem se_X10_areRight : Cond.selects RX10 yX10_areRight yX10_areRight ∈ gw := gw_at 65 (by decide +kernel) rfl
theorem se_X10_works : Cond.selects RX10 yX10_works yX10_works ∈ gw := gw_at 66 (by decide +kernel) rfl
theorem se_X10_simple : Cond.selects RX10 yX10_simple yX10_simple ∈ gw := gw_at 67 (by decide +kernel) rfl
theorem se_X10_put : Cond.selects RX10 yX10_put yX10_put ∈ gw := gw_at 68 (by decide +kernel) rfl
theorem se_X10_putLong : Cond.selects RX10 yX10_putLong yX10_putLong ∈ gw := gw_at 69 (by decide +kernel) rfl
theorem se_X10_take : Cond.selects RX10 yX10_take yX10_take ∈ gw := gw_at 70 (by decide +kernel) rfl
theorem se_X10_takeLong : Cond.selects RX10 yX10_takeLong yX10_takeLong ∈ gw := gw_at 71 (by decide +kernel) rfl
theorem se_X10_make : Cond.selects RX10 yX10_make yX10_make ∈ gw := gw_at 72 (by decide +kernel) rfl
theorem se_X10_ofThings : Cond.selects RX10 yX10_ofThings yX10_ofThings ∈ gw := gw_at 73 (by decide +kernel) rfl
theorem se_X10_isOf : Cond.selects RX10 yX10_isOf yX10_isOf ∈ gw := gw_at 74 (by decide +kernel) rfl
theorem se_X10_worth : Cond.selects RX10 yX10_worth yX10_worth ∈ gw := gw_at 75 (by decide +kernel) rfl
theorem se_X10_others : Cond.selects RX10 yX10_others yX10_others ∈ gw := gw_at 76 (by decide +kernel) rfl
theorem se_X10_calls : Cond.selects RX10 yX10_calls yX10_calls ∈ gw := gw_at 77 (by decide +kernel) rfl
theorem se_X10_after : Cond.selects RX10 yX10_after yX10_after ∈ gw := gw_at 78 (by decide +kernel) rfl
end
section
/-! MEMORY BY NAMES: a world is a list of single cells and a list of families of cells; L says where each lies -/
abbrev mM : Type := List va_E × List (Nat → Nat → Option va_E)
abbrev mI : Type := Nat ⊕ (Nat × Nat × Nat)
def mget (M : mM) (i : mI) : Option va_E := match i with
  | .inl k => M.1[k]?
  | .inr (t, a, b) => match M.2[t]? with
    | some f => f a b
    | none => none
def up2 (f : Nat → Nat → Option va_E) (a b : Nat) (e : va_E) : Nat → Nat → Option va_E := fun x y => if x = a ∧ y = b then some e else f x y
def mset (M : mM) (i : mI) (e : va_E) : mM := match i with
  | .inl k => (M.1.set k e, M.2)
  | .inr (t, a, b) => (M.1, match M.2[t]? with
    | some f => M.2.set t (up2 f a b e)
    | none => M.2)
def mpush (M : mM) (e : va_E) : mM := (M.1 ++ [e], M.2)
def updI (L : mI → Nat) (i : mI) (q : Nat) : mI → Nat := fun j => if j = i then q else L j
theorem updI_self {L : mI → Nat} {i : mI} {q : Nat} : updI L i q i = q := by simp [updI]
theorem updI_ne {L : mI → Nat} {i j : mI} {q : Nat} (h : j ≠ i) : updI L i q j = L j := by simp [updI, h]
theorem mget_self {M : mM} {i : mI} {e0 e : va_E} (h : mget M i = some e0) : mget (mset M i e) i = some e := by
  rcases i with k | ⟨t, a, b⟩
  · have hk : k < M.1.length := (List.getElem?_eq_some_iff.mp h).1
    show (M.1.set k e)[k]? = some e
    rw [List.getElem?_set_self hk]
  · cases hf : M.2[t]? with
    | none => simp [mget, hf] at h
    | some f =>
      have ht : t < M.2.length := (List.getElem?_eq_some_iff.mp hf).1
      simp [mset, mget, hf, List.getElem?_set_self ht, up2]
theorem mget_selfF {M : mM} {t a b : Nat} {f : Nat → Nat → Option va_E} {e : va_E} (hf : M.2[t]? = some f) : mget (mset M (.inr (t, a, b)) e) (.inr (t, a, b)) = some e := by
  have ht : t < M.2.length := (List.getElem?_eq_some_iff.mp hf).1
  simp [mset, mget, hf, List.getElem?_set_self ht, up2]
theorem mget_ne {M : mM} {i j : mI} {e : va_E} (h : j ≠ i) : mget (mset M i e) j = mget M j := by
  rcases i with k | ⟨t, a, b⟩ <;> rcases j with k' | ⟨t', a', b'⟩
  · have hk : k ≠ k' := fun q => h (by rw [q])
    show (M.1.set k e)[k']? = M.1[k']?
    rw [List.getElem?_set_ne hk]
  · rfl
  · rfl
  · cases hf : M.2[t]? with
    | none => simp [mset, mget, hf]
    | some f =>
      have ht : t < M.2.length := (List.getElem?_eq_some_iff.mp hf).1
      by_cases q : t = t'
      · subst q
        have h2 : ¬ (a' = a ∧ b' = b) := fun z => h (by rw [z.1, z.2])
        simp [mset, mget, hf, List.getElem?_set_self ht, up2, h2]
      · simp [mset, mget, hf, List.getElem?_set_ne q]
/-- the heap holds the world, at addresses that are apart and lie in A -/
def mW (D : va_G) (cl : List vw_C) (A : Nat → Prop) (L : mI → Nat) (M : mM) (H : Heap) : Prop :=
  ∃ ws : va_W, va_P D cl ws H ∧ va_D A ws ∧ (∀ (i : mI) (e : va_E), mget M i = some e → ∃ k : Nat, ws[k]? = some (L i, e)) ∧
    ∀ (i j : mI) (x y : va_E), mget M i = some x → mget M j = some y → L i = L j → i = j
theorem mW.set {D : va_G} {cl : List vw_C} {A : Nat → Prop} {L : mI → Nat} {M : mM} {H1 : Heap} {ws : va_W} {i : mI} {k : Nat} {e0 e : va_E}
    (hk : ws[k]? = some (L i, e0)) (hi : mget M i = some e0) (h3 : ∀ (i : mI) (e : va_E), mget M i = some e → ∃ k : Nat, ws[k]? = some (L i, e)) (h4 : ∀ (i j : mI) (x y : va_E), mget M i = some x → mget M j = some y → L i = L j → i = j)
    (hP : va_P D cl (ws.set k (L i, e)) H1) (hD : va_D A (ws.set k (L i, e))) : mW D cl A L (mset M i e) H1 := by
  have hl : k < ws.length := (List.getElem?_eq_some_iff.mp hk).1
  have old : ∀ (j : mI) (x : va_E), mget (mset M i e) j = some x → ∃ y, mget M j = some y := by
    intro j x hx
    by_cases q : j = i
    · subst q; exact ⟨_, hi⟩
    · rw [mget_ne q] at hx; exact ⟨_, hx⟩
  refine ⟨_, hP, hD, fun j x hx => ?_, fun a b x y hx hy hab => ?_⟩
  · by_cases q : j = i
    · subst q
      rw [mget_self hi] at hx
      cases hx
      exact ⟨k, List.getElem?_set_self hl⟩
    · rw [mget_ne q] at hx
      obtain ⟨k', hk'⟩ := h3 j x hx
      refine ⟨k', ?_⟩
      have hne : k ≠ k' := by
        intro z
        subst z
        rw [hk] at hk'
        exact q (h4 j i x e0 hx hi (congrArg Prod.fst (Option.some.inj hk')).symm)
      rw [List.getElem?_set_ne hne]
      exact hk'
  · obtain ⟨x', hx'⟩ := old a x hx
    obtain ⟨y', hy'⟩ := old b y hy
    exact h4 a b _ _ hx' hy' hab
theorem mW.grow {D : va_G} {cl : List vw_C} {A : Nat → Prop} {L : mI → Nat} {M M' : mM} {H1 : Heap} {ws : va_W} {i : mI} {q : Nat} {e : va_E}
    (h3 : ∀ (i : mI) (e : va_E), mget M i = some e → ∃ k : Nat, ws[k]? = some (L i, e)) (h4 : ∀ (i j : mI) (x y : va_E), mget M i = some x → mget M j = some y → L i = L j → i = j)
    (hP : va_P D cl (ws ++ [(q, e)]) H1) (hD : va_D A (ws ++ [(q, e)])) (h1 : mget M' i = some e) (h2 : ∀ j, j ≠ i → mget M' j = mget M j) : mW D cl A (updI L i q) M' H1 := by
  have hlast : (ws ++ [(q, e)])[ws.length]? = some (q, e) := by simp
  have hold : ∀ (j : mI) (x : va_E), j ≠ i → mget M' j = some x → ∃ k : Nat, k < ws.length ∧ (ws ++ [(q, e)])[k]? = some (L j, x) := by
    intro j x hj hx
    rw [h2 j hj] at hx
    obtain ⟨k, hk⟩ := h3 j x hx
    have hl : k < ws.length := (List.getElem?_eq_some_iff.mp hk).1
    exact ⟨k, hl, by rw [List.getElem?_append_left hl]; exact hk⟩
  refine ⟨_, hP, hD, fun j x hx => ?_, fun a b x y hx hy hab => ?_⟩
  · by_cases z : j = i
    · subst z
      rw [h1] at hx
      cases hx
      exact ⟨ws.length, by rw [updI_self]; exact hlast⟩
    · obtain ⟨k, -, hk⟩ := hold j x z hx
      exact ⟨k, by rw [updI_ne z]; exact hk⟩
  · by_cases za : a = i <;> by_cases zb : b = i
    · rw [za, zb]
    · subst za
      obtain ⟨k, hl, hk⟩ := hold b y zb hy
      rw [updI_self, updI_ne zb] at hab
      have := hD.1 _ _ _ _ hlast hk hab
      omega
    · subst zb
      obtain ⟨k, hl, hk⟩ := hold a x za hx
      rw [updI_self, updI_ne za] at hab
      have := hD.1 _ _ _ _ hk hlast hab
      omega
    · rw [updI_ne za, updI_ne zb] at hab
      rw [h2 a za] at hx
      rw [h2 b zb] at hy
      exact h4 a b x y hx hy hab
theorem mW.weaken {D : va_G} {cl : List vw_C} {A B : Nat → Prop} {L : mI → Nat} {M : mM} {H : Heap} (h : mW D cl A L M H) (hAB : ∀ q, A q → B q) : mW D cl B L M H := by
  obtain ⟨ws, h1, h2, h3, h4⟩ := h
  exact ⟨ws, h1, h2.weaken (fun _ _ _ hq => hAB _ hq), h3, h4⟩
theorem mW.inA {D : va_G} {cl : List vw_C} {A : Nat → Prop} {L : mI → Nat} {M : mM} {H : Heap} (h : mW D cl A L M H) {i : mI} {e : va_E} (hi : mget M i = some e) : A (L i) := by
  obtain ⟨ws, h1, h2, h3, h4⟩ := h
  obtain ⟨k, hk⟩ := h3 i e hi
  exact h2.2 k _ hk
theorem mW.lt {D : va_G} {cl : List vw_C} {A : Nat → Prop} {L : mI → Nat} {M : mM} {H : Heap} (h : mW D cl A L M H) {i : mI} {e : va_E} (hi : mget M i = some e) : L i < H.size := by
  obtain ⟨ws, h1, h2, h3, h4⟩ := h
  obtain ⟨k, hk⟩ := h3 i e hi
  exact (h1 k _ hk).lt
/-- a world that nothing has touched -/
theorem mW.kept {D : va_G} {cl : List vw_C} {A : Nat → Prop} {L : mI → Nat} {M : mM} {H H1 : Heap} (h : mW D cl A L M H) (hq : ∀ q : Nat, q < H.size → A q → H1[q]? = H[q]?) : mW D cl A L M H1 := by
  obtain ⟨ws, h1, h2, h3, h4⟩ := h
  exact ⟨ws, h1.kept (fun k q hk => hq _ ((h1 k q hk).lt) (h2.2 k q hk)), h2, h3, h4⟩
end
section
/-! ROWS OVER THE MEMORY BY NAMES: what is fixed, contracts, calls, instructions -/
/-- the classes' numbers and slots; the array classes' numbers; where the static tables lie -/
abbrev mG : Type := va_G × (Nat → ClassId) × (Nat → Nat)
def mTy (Γ : mG) : List (ClassId × FieldType) := [(Γ.2.1 0, .int), (Γ.2.1 1, .long), (Γ.2.1 2, .boolean), (Γ.2.1 3, .object RX0), (Γ.2.1 4, .object RX6)]
def mUN (j : Nat) : Int32 := ([1, 3, 7, 75, 215, 163, 65, 129] : List Int32).getD j 0
def mAB (j : Nat) : Int32 := ([0, 0, 1, 1, 2, 1, 0, 0] : List Int32).getD j 0
def mSt (Γ : mG) (A : Nat → Prop) (U : State) (H : Heap) : Prop :=
  va_Z RX3 "UNDER" "[I" (.ref (Γ.2.2 0)) A U H ∧ va_T .int (Γ.2.2 0) 8 (fun j => .int (mUN j)) A U H ∧ va_Z RX3 "ABOVE" "[I" (.ref (Γ.2.2 1)) A U H ∧ va_T .int (Γ.2.2 1) 8 (fun j => .int (mAB j)) A U H
theorem mSt.moved {Γ : mG} {A : Nat → Prop} {u U : State} {H : Heap} (hvm : u.vm.Alike U.vm) (h : mSt Γ A u H) : mSt Γ A U H := ⟨va_Z.moved hvm h.1, va_T.moved hvm h.2.1, va_Z.moved hvm h.2.2.1, va_T.moved hvm h.2.2.2⟩
theorem mSt.kept {Γ : mG} {A : Nat → Prop} {U : State} {H H1 : Heap} (h : mSt Γ A U H) (hq : ∀ a : Nat, a < H.size → ¬ A a → H1[a]? = H[a]?) : mSt Γ A U H1 := ⟨va_Z.kept h.1 hq, va_T.kept h.2.1 hq, va_Z.kept h.2.2.1 hq, va_T.kept h.2.2.2 hq⟩
theorem mSt.narrow {Γ : mG} {A B : Nat → Prop} {U : State} {H : Heap} (h : mSt Γ A U H) (hAB : ∀ q, B q → A q) : mSt Γ B U H := ⟨va_Z.narrow h.1 hAB, va_T.narrow h.2.1 hAB, va_Z.narrow h.2.2.1 hAB, va_T.narrow h.2.2.2 hAB⟩
def mK (Γ : mG) (U : State) : Prop := va_K Γ.1 vwCl (mTy Γ) U ∧ (∀ q ∈ mNest, va_Nw (.methodLinkNest q.1 q.2.1 q.2.2.1 q.2.2.2) U) ∧ va_AO RX0 U ∧ va_AO RX6 U
theorem mK.warm {Γ : mG} {s U : State} (hW : s.WarmedH U.vm) (h : mK Γ s) : mK Γ U := ⟨va_K.moved hW.alike h.1, fun q hq => va_Nw.warmM hW (h.2.1 q hq), va_AO.moved hW.alike h.2.2.1, va_AO.moved hW.alike h.2.2.2⟩
theorem mK.same {Γ : mG} {u U : State} (hv : u.vm = U.vm) (h : mK Γ u) : mK Γ U := by
  have ha : u.vm.Alike U.vm := by rw [hv]; exact Vm.Alike.refl _
  exact ⟨va_K.moved ha h.1, fun q hq => va_Nw.same rfl hv (h.2.1 q hq), va_AO.moved ha h.2.2.1, va_AO.moved ha h.2.2.2⟩
/-- a method's start -/
def mPre (Γ : mG) (As : List Value) (A : Nat → Prop) (sz : Nat) (L : mI → Nat) (M : mM) : Array Value → State → Prop :=
  va_Pc As (fun U => U.heap.size = sz ∧ (∀ q : Nat, sz ≤ q → A q) ∧ mW Γ.1 vwCl A L M U.heap ∧ mK Γ U ∧ mSt Γ A U U.heap)
theorem mPre.blind {Γ : mG} {As : List Value} {A : Nat → Prop} {sz : Nat} {L : mI → Nat} {M : mM} : FrameBlind (mPre Γ As A sz L M) := by
  intro a U g mk h
  obtain ⟨h0, h1, h2, h3, h4, h5⟩ := h
  exact ⟨h0, h1, h2, h3, mK.same (u := U) (U := U.calling g mk a) rfl h4, mSt.moved (u := U) (U := U.calling g mk a) (Vm.Alike.refl U.vm) h5⟩
abbrev mS : Type := (mI → Nat) × mM
def mB (Γ : mG) (A : Nat → Prop) (u : mS) (t : State) : Prop := mW Γ.1 vwCl A u.1 u.2 t.heap
/-- a contract: any world that holds L, M, any A that holds its addresses and the new ones -/
def mMet (Γ : mG) (l : Launch) (y : MethodName) (cc : ByteArray) (nL : Nat) (ret : Option FieldType) (rm : Room) (As : List Value) (L : mI → Nat) (M : mM) (Q : (Nat → Prop) → Array Value → State → Outcome → State → Prop) : Prop :=
  ∀ (A : Nat → Prop) (sz : Nat), Met l y (.code y cc nL ret :: gw) rm (mPre Γ As A sz L M) (Q A) rm.cells rm.slots A
def mQi (Γ : mG) (post : Int32 → (mI → Nat) → mM → Prop) (A : Nat → Prop) : Array Value → State → Outcome → State → Prop := va_Qi (fun r (u : mS) => post r u.1 u.2) (mB Γ A) A
def mQl (Γ : mG) (post : Int64 → (mI → Nat) → mM → Prop) (A : Nat → Prop) : Array Value → State → Outcome → State → Prop := va_Ql (fun r (u : mS) => post r u.1 u.2) (mB Γ A) A
def mQq (Γ : mG) (post : Option Nat → (mI → Nat) → mM → Prop) (A : Nat → Prop) : Array Value → State → Outcome → State → Prop := va_Qq (fun r (u : mS) => post r u.1 u.2) (mB Γ A) A
def mQv (Γ : mG) (post : (mI → Nat) → mM → Prop) (A : Nat → Prop) : Array Value → State → Outcome → State → Prop := va_Qv (fun (u : mS) => post u.1 u.2) (mB Γ A) A
def mX (Γ : mG) (p : Program) (m : MethodId) (c : Code) (cc : ByteArray) (nL : Nat) (s : State) (args : Array Value) (own : String) (A : Nat → Prop) : Prop :=
  CallFix p m c cc nL s args gw own ∧ mK Γ s ∧ mSt Γ A s s.heap ∧ ∀ q : Nat, s.heap.size ≤ q → A q
def bI (b : Bool) : Int32 := if b then 1 else 0
section MR
variable {p : Program} {l : Launch} {e : Env} {R : Room} {s : State} {m : MethodId} {args : Array Value} {below : List Frame} {meth : Method} {c : Code} {H : Heap} {locs : List Loc} {cells slots : Nat} {Q : State → Prop}
variable {cc : ByteArray} {pc nL : Nat} {ls : Array Slot} {rest : List Value} {Γ : mG} {A : Nat → Prop} {L : mI → Nat} {M : mM} {own : String}
theorem m_start {y : MethodName} {ret : Option FieldType} {rm : Room} {As : List Value} {Qp : (Nat → Prop) → Array Value → State → Outcome → State → Prop} (hy : plainName y.cls = true) (hlen : (lg_sl As).length ≤ nL)
    (body : ∀ (p : Program) (e : Env) (s : State) (m : MethodId) (args : Array Value) (below : List Frame) (meth : Method) (c : Code) (A : Nat → Prop) (ls : Array Slot), mX Γ p m c cc nL s args y.cls A → meth.sig.returnType = ret → meth.locks = false → meth.name = y.name → mW Γ.1 vwCl A L M s.heap → va_S A s.heap s.heap [] → lv_has ls nL (lv_args 0 As) →
      W p l e rm s m args below meth c s.heap [] 0 0 (MQ below (Qp A) args s rm.cells rm.slots A) (F0 m 0 ls [])) : mMet Γ l y cc nL ret rm As L M Qp := by
  intro A sz
  refine Met.ofW (cc := cc) (maxL := nL) (ret := ret) hy rfl ?_
  intro p e s m args below meth c s₁ B hml hv
  obtain ⟨rfl, hsz, hA, hw, hK, hst⟩ := hv
  have hts := atoms_spec (ws := .code y cc nL ret :: gw) B.pre
  have hl := lv_entry As (n := nL) hlen
  rw [lg_entry_eq]
  generalize (lg_sl As ++ List.replicate (nL - (lg_sl As).length) Slot.unset).toArray = ls at hl ⊢
  subst hsz
  exact body p e s m _ below meth c A ls ⟨⟨B.exec, B.bytes, hml, findClass_of_methodNamed B.named, fun w hw => hts w (List.mem_cons_of_mem _ hw)⟩, hK, hst, hA⟩ B.returns B.notSynchronized (name_of_methodNamed B.named B.method).1 hw va_S.rf hl
theorem m_iret {mc ms : Nat} {v : Int32} {post : Int32 → (mI → Nat) → mM → Prop} (X : mX Γ p m c cc nL s args own A) (hr : meth.sig.returnType = some .int) (hlk : meth.locks = false) (hw : mW Γ.1 vwCl A L M H) (hS : va_S A s.heap H locs) (hc : cells ≤ mc) (hs : slots ≤ ms) (hp : post v L M) (hdg : decode cc pc = .ok (.ireturn, 1)) :
    W p l e R s m args below meth c H locs cells slots (MQ below (mQi Γ post A) args s mc ms A) (F0 m pc ls [.int v]) := by
  refine W.widen (k := mc) (n := ms) hc hs ?_
  exact W.iret X.1.1 X.1.2.1 hr (fun t ht hW => ⟨⟨v, (L, M), rfl, hp, by show mW _ _ _ _ _ _; rw [ht]; exact hw⟩, hS.F ht⟩) hS.2.2 hdg
theorem m_zret {mc ms : Nat} {b : Bool} {v : Int32} {post : Int32 → (mI → Nat) → mM → Prop} (X : mX Γ p m c cc nL s args own A) (hr : meth.sig.returnType = some .boolean) (hlk : meth.locks = false) (hw : mW Γ.1 vwCl A L M H) (hS : va_S A s.heap H locs) (hc : cells ≤ mc) (hs : slots ≤ ms) (hv : v = bI b) (hp : post (bI b) L M) (hdg : decode cc pc = .ok (.ireturn, 1)) :
    W p l e R s m args below meth c H locs cells slots (MQ below (mQi Γ post A) args s mc ms A) (F0 m pc ls [.int v]) := by
  subst hv
  refine W.widen (k := mc) (n := ms) hc hs ?_
  exact W.zret X.1.1 X.1.2.1 hr (by cases b <;> rfl) (fun t ht hW => ⟨⟨bI b, (L, M), rfl, hp, by show mW _ _ _ _ _ _; rw [ht]; exact hw⟩, hS.F ht⟩) hS.2.2 hdg
theorem m_lret {mc ms : Nat} {v : Int64} {post : Int64 → (mI → Nat) → mM → Prop} (X : mX Γ p m c cc nL s args own A) (hr : meth.sig.returnType = some .long) (hlk : meth.locks = false) (hw : mW Γ.1 vwCl A L M H) (hS : va_S A s.heap H locs) (hc : cells ≤ mc) (hs : slots ≤ ms) (hp : post v L M) (hdg : decode cc pc = .ok (.lreturn, 1)) :
    W p l e R s m args below meth c H locs cells slots (MQ below (mQl Γ post A) args s mc ms A) (F0 m pc ls [.long v]) := by
  refine W.widen (k := mc) (n := ms) hc hs ?_
  exact W.lret X.1.1 X.1.2.1 hr (fun t ht hW => ⟨⟨v, (L, M), rfl, hp, by show mW _ _ _ _ _ _; rw [ht]; exact hw⟩, hS.F ht⟩) hS.2.2 hdg
theorem m_vret {mc ms : Nat} {post : (mI → Nat) → mM → Prop} (X : mX Γ p m c cc nL s args own A) (hr : meth.sig.returnType = none) (hlk : meth.locks = false) (hw : mW Γ.1 vwCl A L M H) (hS : va_S A s.heap H locs) (hc : cells ≤ mc) (hs : slots ≤ ms) (hp : post L M) (hdg : decode cc pc = .ok (.return_, 1)) :
    W p l e R s m args below meth c H locs cells slots (MQ below (mQv Γ post A) args s mc ms A) (F0 m pc ls []) := by
  refine W.widen (k := mc) (n := ms) hc hs ?_
  exact W.vret X.1.1 X.1.2.1 hr (fun t ht hW => ⟨⟨(L, M), rfl, hp, by show mW _ _ _ _ _ _; rw [ht]; exact hw⟩, hS.F ht⟩) hS.2.2 hdg
theorem m_qret {mc ms : Nat} {v : Option Nat} {C : String} {post : Option Nat → (mI → Nat) → mM → Prop} (X : mX Γ p m c cc nL s args own A) (hr : meth.sig.returnType = some (.object C)) (hlk : meth.locks = false) (hw : mW Γ.1 vwCl A L M H) (hS : va_S A s.heap H locs) (hc : cells ≤ mc) (hs : slots ≤ ms) (hp : post v L M) (hdg : decode cc pc = .ok (.areturn, 1)) :
    W p l e R s m args below meth c H locs cells slots (MQ below (mQq Γ post A) args s mc ms A) (F0 m pc ls [va_rf v]) := by
  refine W.widen (k := mc) (n := ms) hc hs ?_
  exact W.aret X.1.1 X.1.2.1 hr (Or.inl ⟨_, rfl⟩) (va_rf_or v) (fun t ht hW => ⟨⟨v, (L, M), rfl, hp, by show mW _ _ _ _ _ _; rw [ht]; exact hw⟩, hS.F ht⟩) hS.2.2 hdg
/-- what a caller may give to its callee -/
theorem m_pre {y : MethodName} {As : List Value} (X : mX Γ p m c cc nL s args own A) (hw : mW Γ.1 vwCl A L M H) (hS : va_S A s.heap H locs) (U : State) (hU : U.heap = H) (hW : s.WarmedH U.vm) : mPre Γ As A H.size L M As.toArray U := by
  refine ⟨rfl, by rw [hU], fun q hq => X.2.2.2 q (Nat.le_trans hS.1 hq), by rw [hU]; exact hw, X.2.1.warm hW, ?_⟩
  rw [hU]
  exact mSt.moved hW.alike (mSt.kept X.2.2.1 hS.2.1)
/-- a callee's own words: static -/
def mSm (y : MethodName) (cc : ByteArray) (nL : Nat) (ret : Option FieldType) (n : Nat) : Prop := Cond.code y cc nL ret ∈ gw ∧ Cond.static y ∈ gw ∧ Cond.initialized y.cls ∈ gw ∧ y.cls ≠ "java/lang/invoke/MethodHandle" ∧ y.cls ≠ "java/lang/invoke/VarHandle" ∧ (parseMethodDescriptor y.desc).map (fun d => d.parameters.length) = some n
/-- a callee's own words: of an object -/
def mVm (y : MethodName) (cc : ByteArray) (nL : Nat) (ret : Option FieldType) (n : Nat) : Prop := Cond.code y cc nL ret ∈ gw ∧ Cond.instanceMethod y ∈ gw ∧ Cond.selects y.cls y y ∈ gw ∧ Cond.initialized y.cls ∈ gw ∧ y.cls ≠ "java/lang/invoke/MethodHandle" ∧ y.cls ≠ "java/lang/invoke/VarHandle" ∧ (parseMethodDescriptor y.desc).map (fun d => d.parameters.length) = some n
/-- a constructor's own words -/
def mIm (y : MethodName) (cc : ByteArray) (nL : Nat) (n : Nat) : Prop := Cond.code y cc nL none ∈ gw ∧ Cond.instanceMethod y ∈ gw ∧ Cond.initialized y.cls ∈ gw ∧ y.name = "<init>" ∧ y.cls ≠ "java/lang/invoke/MethodHandle" ∧ y.cls ≠ "java/lang/invoke/VarHandle" ∧ (parseMethodDescriptor y.desc).map (fun d => d.parameters.length) = some n
variable {y : MethodName} {cy : ByteArray} {ny n index : Nat} {ret : Option FieldType} {rm : Room} {As : List Value} {Qp : (Nat → Prop) → Array Value → State → Outcome → State → Prop}
theorem m_runS (X : mX Γ p m c cc nL s args own A) (hM : mMet Γ l y cy ny ret rm As L M Qp) (hy : mSm y cy ny ret n) (hl : Cond.methodLink own index y ∈ gw) (hw : mW Γ.1 vwCl A L M H) (hS : va_S A s.heap H locs) (hn : As.length = n) (hsz : ls.size = nL) (hrm : rm.frames + 1 ≤ R.frames ∧ 8 + (ny + 11) + rm.locals ≤ R.locals) (hrest : (rest.map fun v => v.category).sum ≤ 8) (hcs : cells + rm.cells ≤ R.cells ∧ slots + rm.slots ≤ R.slots) (hdg : decode cc pc = .ok (.invokestatic index, 3)) :
    va_Run p l e R s m args below meth c H locs cells slots rm.cells rm.slots (F0 m pc ls (As.reverse ++ rest)) rest (Qp A As.toArray) A := by
  obtain ⟨h1, h2, h3, h4, h5, h6⟩ := hy
  have ht := X.1.2.2.2.2
  exact va_runS X.1 (hM A H.size) ⟨callB_of n ht (gw_good h1) rfl rfl rfl (ht _ h3) (ht _ hl) ⟨h4, h5, h6⟩ hrm, ht _ h2⟩ ⟨mPre.blind, fun U hU hW => m_pre (y := y) X hw hS U hU hW⟩ rfl hn hsz rfl (lv_room hrest) hdg hcs
theorem m_runV {i : mI} {ci : Nat} {fs : List Value} {q : vw_C} (X : mX Γ p m c cc nL s args own A) (hM : mMet Γ l y cy ny ret rm (.ref (L i) :: As) L M Qp) (hy : mVm y cy ny ret n) (hl : Cond.methodLink own index y ∈ gw) (hw : mW Γ.1 vwCl A L M H) (hS : va_S A s.heap H locs) (hi : mget M i = some (.inr (ci, fs))) (hc : vwCl[ci]? = some q) (hq : q.1 = y.cls) (hn : As.length = n) (hsz : ls.size = nL) (hrm : rm.frames + 1 ≤ R.frames ∧ 8 + (ny + 11) + rm.locals ≤ R.locals) (hrest : (rest.map fun v => v.category).sum ≤ 8) (hcs : cells + rm.cells ≤ R.cells ∧ slots + rm.slots ≤ R.slots) (hdg : decode cc pc = .ok (.invokevirtual index, 3)) :
    va_Run p l e R s m args below meth c H locs cells slots rm.cells rm.slots (F0 m pc ls (As.reverse ++ .ref (L i) :: rest)) rest (Qp A (Value.ref (L i) :: As).toArray) A := by
  obtain ⟨h1, h2, h3, h4, h5, h6, h7⟩ := hy
  have ht := X.1.2.2.2.2
  obtain ⟨ws, hP, hD, w3, w4⟩ := id hw
  obtain ⟨k, hk⟩ := w3 i _ hi
  have hrecv := va_recv X.2.1.1 hP hc hk
  rw [hq] at hrecv
  exact va_runV X.1 (hM A H.size) ⟨callB_of n ht (gw_good h1) rfl rfl rfl (ht _ h4) (ht _ hl) ⟨h5, h6, h7⟩ hrm, ht _ h2, ht _ h3⟩ ⟨mPre.blind, hrecv, fun U hU hW => m_pre (y := y) X hw hS U hU hW⟩ rfl hn hsz rfl (lv_room hrest) hdg hcs
theorem m_runI {b : Nat} (X : mX Γ p m c cc nL s args own A) (hM : mMet Γ l y cy ny none rm (.ref b :: As) L M Qp) (hy : mIm y cy ny n) (hl : Cond.methodLink own index y ∈ gw) (hw : mW Γ.1 vwCl A L M H) (hS : va_S A s.heap H locs) (hn : As.length = n) (hsz : ls.size = nL) (hrm : rm.frames + 1 ≤ R.frames ∧ 8 + (ny + 11) + rm.locals ≤ R.locals) (hrest : (rest.map fun v => v.category).sum ≤ 8) (hcs : cells + rm.cells ≤ R.cells ∧ slots + rm.slots ≤ R.slots) (hdg : decode cc pc = .ok (.invokespecial index, 3)) :
    va_Run p l e R s m args below meth c H locs cells slots rm.cells rm.slots (F0 m pc ls (As.reverse ++ .ref b :: rest)) rest (Qp A (Value.ref b :: As).toArray) A := by
  obtain ⟨h1, h2, h3, h4, h5, h6, h7⟩ := hy
  have ht := X.1.2.2.2.2
  exact va_runI X.1 (hM A H.size) ⟨callB_of n ht (gw_good h1) rfl rfl rfl (ht _ h3) (ht _ hl) ⟨h5, h6, h7⟩ hrm, h4, ht _ h2⟩ ⟨mPre.blind, fun U hU hW => m_pre (y := y) X hw hS U hU hW⟩ rfl hn hsz rfl (lv_room hrest) hdg hcs
theorem m_runIN {b : Nat} {host : String} (X : mX Γ p m c cc nL s args own A) (hM : mMet Γ l y cy ny none rm (.ref b :: As) L M Qp) (hy : mIm y cy ny n) (hl : (own, index, y, host) ∈ mNest) (hw : mW Γ.1 vwCl A L M H) (hS : va_S A s.heap H locs) (hn : As.length = n) (hsz : ls.size = nL) (hrm : rm.frames + 1 ≤ R.frames ∧ 8 + (ny + 11) + rm.locals ≤ R.locals) (hrest : (rest.map fun v => v.category).sum ≤ 8) (hcs : cells + rm.cells ≤ R.cells ∧ slots + rm.slots ≤ R.slots) (hdg : decode cc pc = .ok (.invokespecial index, 3)) :
    va_Run p l e R s m args below meth c H locs cells slots rm.cells rm.slots (F0 m pc ls (As.reverse ++ .ref b :: rest)) rest (Qp A (Value.ref b :: As).toArray) A := by
  obtain ⟨h1, h2, h3, h4, h5, h6, h7⟩ := hy
  have ht := X.1.2.2.2.2
  exact va_runIN X.1 (hM A H.size) ⟨va_cnB n ht (gw_good h1) rfl rfl rfl (X.2.1.2.1 _ hl) (ht _ h3) ⟨h5, h6, h7⟩ hrm, h4, ht _ h2⟩ ⟨mPre.blind, fun U hU hW => m_pre (y := y) X hw hS U hU hW⟩ rfl hn hsz rfl (lv_room hrest) hdg hcs
variable {st0 : List Value} {a : Array Value} {mc ms : Nat}
theorem m_calli {post : Int32 → (mI → Nat) → mM → Prop} (hr : va_Run p l e R s m args below meth c H locs cells slots mc ms (F0 m pc ls st0) rest (mQi Γ post A a) A) (hS : va_S A s.heap H locs)
    (kk : ∀ (r : Int32) (L1 : mI → Nat) (M1 : mM) (H1 : Heap) (locs1 : List Loc), post r L1 M1 → mW Γ.1 vwCl A L1 M1 H1 → va_S A s.heap H1 locs1 → W p l e R s m args below meth c H1 locs1 (cells + mc) (slots + ms) Q (F0 m (pc + 3) ls (.int r :: rest))) : W p l e R s m args below meth c H locs cells slots Q (F0 m pc ls st0) :=
  va_calli hr hS (fun _ _ h => h) (fun _ h => h) (fun r u t H1 locs1 ht _ hp hB _ _ hS1 => kk r u.1 u.2 H1 locs1 hp (by rw [← ht]; exact hB) hS1)
theorem m_calll {post : Int64 → (mI → Nat) → mM → Prop} (hr : va_Run p l e R s m args below meth c H locs cells slots mc ms (F0 m pc ls st0) rest (mQl Γ post A a) A) (hS : va_S A s.heap H locs)
    (kk : ∀ (r : Int64) (L1 : mI → Nat) (M1 : mM) (H1 : Heap) (locs1 : List Loc), post r L1 M1 → mW Γ.1 vwCl A L1 M1 H1 → va_S A s.heap H1 locs1 → W p l e R s m args below meth c H1 locs1 (cells + mc) (slots + ms) Q (F0 m (pc + 3) ls (.long r :: rest))) : W p l e R s m args below meth c H locs cells slots Q (F0 m pc ls st0) :=
  va_calll hr hS (fun _ _ h => h) (fun _ h => h) (fun r u t H1 locs1 ht _ hp hB _ _ hS1 => kk r u.1 u.2 H1 locs1 hp (by rw [← ht]; exact hB) hS1)
theorem m_callq {post : Option Nat → (mI → Nat) → mM → Prop} (hr : va_Run p l e R s m args below meth c H locs cells slots mc ms (F0 m pc ls st0) rest (mQq Γ post A a) A) (hS : va_S A s.heap H locs)
    (kk : ∀ (r : Option Nat) (L1 : mI → Nat) (M1 : mM) (H1 : Heap) (locs1 : List Loc), post r L1 M1 → mW Γ.1 vwCl A L1 M1 H1 → va_S A s.heap H1 locs1 → W p l e R s m args below meth c H1 locs1 (cells + mc) (slots + ms) Q (F0 m (pc + 3) ls (va_rf r :: rest))) : W p l e R s m args below meth c H locs cells slots Q (F0 m pc ls st0) :=
  va_callq hr hS (fun _ _ h => h) (fun _ h => h) (fun r u t H1 locs1 ht _ hp hB _ _ hS1 => kk r u.1 u.2 H1 locs1 hp (by rw [← ht]; exact hB) hS1)
theorem m_callv {post : (mI → Nat) → mM → Prop} (hr : va_Run p l e R s m args below meth c H locs cells slots mc ms (F0 m pc ls st0) rest (mQv Γ post A a) A) (hS : va_S A s.heap H locs)
    (kk : ∀ (L1 : mI → Nat) (M1 : mM) (H1 : Heap) (locs1 : List Loc), post L1 M1 → mW Γ.1 vwCl A L1 M1 H1 → va_S A s.heap H1 locs1 → W p l e R s m args below meth c H1 locs1 (cells + mc) (slots + ms) Q (F0 m (pc + 3) ls rest)) : W p l e R s m args below meth c H locs cells slots Q (F0 m pc ls st0) :=
  va_callv hr hS (fun _ _ h => h) (fun _ h => h) (fun u t H1 locs1 ht _ hp hB _ _ hS1 => kk u.1 u.2 H1 locs1 hp (by rw [← ht]; exact hB) hS1)
end MR
end
section
/-! INSTRUCTIONS OVER THE MEMORY BY NAMES -/
section MI
variable {p : Program} {l : Launch} {e : Env} {R : Room} {s : State} {m : MethodId} {args : Array Value} {below : List Frame} {meth : Method} {c : Code} {H : Heap} {locs : List Loc} {cells slots : Nat} {Q : State → Prop}
variable {cc : ByteArray} {pc nL : Nat} {ls : Array Slot} {rest : List Value} {Γ : mG} {A : Nat → Prop} {L : mI → Nat} {M : mM} {own : String} {i : mI}
theorem m_get {C ref : String} {T : u_T} {N ci index : Nat} {fs : List Value} {v : Value} (X : mX Γ p m c cc nL s args own A) (hw : mW Γ.1 vwCl A L M H) (hi : mget M i = some (.inr (ci, fs))) (hc : vwCl[ci]? = some (C, T, N)) (hin : ∀ w ∈ u_ws C T N, w ∈ gw) (k : Nat) (hk : k < N) (hlink : Cond.fieldLink own index ref (T k).2.1 (T k).2.2.1 ∈ gw) (hself : (T k).1 = ref) (hv : fs[k]? = some v) (hdg : decode cc pc = .ok (.getfield index, 3))
    (kk : W p l e R s m args below meth c H locs cells slots Q (F0 m (pc + 3) ls (v :: rest))) : W p l e R s m args below meth c H locs cells slots Q (F0 m pc ls (.ref (L i) :: rest)) := by
  obtain ⟨ws, hP, hD, h3, h4⟩ := hw
  obtain ⟨k0, hk0⟩ := h3 i _ hi
  have ht := X.1.2.2.2.2
  exact va_get X.1.1 X.1.2.1 ht hin X.1.2.2.2.1 X.2.1.1 hP k0 hk0 hc k hk (ht _ hlink) (fun x h => by rw [← hself]; exact h) hv hdg kk
theorem m_put {C ref : String} {T : u_T} {N ci index : Nat} {fs : List Value} {v : Value} {ty : FieldType} (X : mX Γ p m c cc nL s args own A) (hw : mW Γ.1 vwCl A L M H) (hS : va_S A s.heap H locs) (hi : mget M i = some (.inr (ci, fs))) (hc : vwCl[ci]? = some (C, T, N)) (hin : ∀ w ∈ u_ws C T N, w ∈ gw) (ty0 : Nat → FieldType) (hty : ∀ k, k < N → parseFieldDescriptor (T k).2.2.1 = some (ty0 k)) (hnm : ∀ a, a < N → ∀ b, b < N → a ≠ b → (T a).2.1 ≠ (T b).2.1) (k : Nat) (hk : k < N) (hlink : Cond.fieldLink own index ref (T k).2.1 (T k).2.2.1 ∈ gw) (hself : (T k).1 = ref) (hfin : (T k).2.2.2 = false) (hd : parseFieldDescriptor (T k).2.2.1 = some ty) (hn : narrow ty v = v) (hfit : fits ty v = true) (hl : k < fs.length) (hdg : decode cc pc = .ok (.putfield index, 3))
    (kk : ∀ (H1 : Heap) (locs1 : List Loc), mW Γ.1 vwCl A L (mset M i (.inr (ci, fs.set k v))) H1 → va_S A s.heap H1 locs1 → W p l e R s m args below meth c H1 locs1 cells slots Q (F0 m (pc + 3) ls rest)) : W p l e R s m args below meth c H locs cells slots Q (F0 m pc ls (v :: .ref (L i) :: rest)) := by
  obtain ⟨ws, hP, hD, h3, h4⟩ := hw
  obtain ⟨k0, hk0⟩ := h3 i _ hi
  have ht := X.1.2.2.2.2
  exact va_put X.1.1 X.1.2.1 ht hin ty0 hty hnm X.1.2.2.2.1 X.2.1.1 hP hD hS k0 hk0 hc k hk (ht _ hlink) (fun x h => by rw [← hself]; exact h) hfin hd hn hfit hl hdg (fun H1 locs1 hP1 hD1 hS1 => kk H1 locs1 (mW.set hk0 hi h3 h4 hP1 hD1) hS1)
theorem m_putF {C ref : String} {T : u_T} {N ci index : Nat} {fs : List Value} {v : Value} {ty : FieldType} (X : mX Γ p m c cc nL s args own A) (hw : mW Γ.1 vwCl A L M H) (hS : va_S A s.heap H locs) (hi : mget M i = some (.inr (ci, fs))) (hc : vwCl[ci]? = some (C, T, N)) (hin : ∀ w ∈ u_ws C T N, w ∈ gw) (ty0 : Nat → FieldType) (hty : ∀ k, k < N → parseFieldDescriptor (T k).2.2.1 = some (ty0 k)) (hnm : ∀ a, a < N → ∀ b, b < N → a ≠ b → (T a).2.1 ≠ (T b).2.1) (k : Nat) (hk : k < N) (hlink : Cond.fieldLink own index ref (T k).2.1 (T k).2.2.1 ∈ gw) (hself : (T k).1 = ref) (hfin : (T k).2.2.2 = true) (hinit : meth.name = "<init>") (hdecl : (T k).1 = own) (hd : parseFieldDescriptor (T k).2.2.1 = some ty) (hn : narrow ty v = v) (hfit : fits ty v = true) (hl : k < fs.length) (hdg : decode cc pc = .ok (.putfield index, 3))
    (kk : ∀ (H1 : Heap) (locs1 : List Loc), mW Γ.1 vwCl A L (mset M i (.inr (ci, fs.set k v))) H1 → va_S A s.heap H1 locs1 → W p l e R s m args below meth c H1 locs1 cells slots Q (F0 m (pc + 3) ls rest)) : W p l e R s m args below meth c H locs cells slots Q (F0 m pc ls (v :: .ref (L i) :: rest)) := by
  obtain ⟨ws, hP, hD, h3, h4⟩ := hw
  obtain ⟨k0, hk0⟩ := h3 i _ hi
  have ht := X.1.2.2.2.2
  exact va_putF X.1.1 X.1.2.1 ht hin ty0 hty hnm X.1.2.2.2.1 X.2.1.1 hP hD hS k0 hk0 hc k hk (ht _ hlink) (fun x h => by rw [← hself]; exact h) hfin hinit hdecl hd hn hfit hl hdg (fun H1 locs1 hP1 hD1 hS1 => kk H1 locs1 (mW.set hk0 hi h3 h4 hP1 hD1) hS1)
theorem m_iald {n : Nat} {f : Nat → Int32} {x : Int32} (X : mX Γ p m c cc nL s args own A) (hw : mW Γ.1 vwCl A L M H) (hi : mget M i = some (.inl (Γ.2.1 0, n, .inl f))) (hin : vp_in x n) (hdg : decode cc pc = .ok (.iaload, 1))
    (kk : W p l e R s m args below meth c H locs cells slots Q (F0 m (pc + 1) ls (.int (f x.toNatClampNeg) :: rest))) : W p l e R s m args below meth c H locs cells slots Q (F0 m pc ls (.int x :: .ref (L i) :: rest)) := by
  obtain ⟨ws, hP, hD, h3, h4⟩ := hw
  obtain ⟨k0, hk0⟩ := h3 i _ hi
  exact va_iald X.1.1 X.1.2.1 X.2.1.1 hP k0 0 hk0 rfl hin hdg kk
theorem m_lald {n : Nat} {f : Nat → Int64} {x : Int32} (X : mX Γ p m c cc nL s args own A) (hw : mW Γ.1 vwCl A L M H) (hi : mget M i = some (.inl (Γ.2.1 1, n, .inr (.inl f)))) (hin : vp_in x n) (hdg : decode cc pc = .ok (.laload, 1))
    (kk : W p l e R s m args below meth c H locs cells slots Q (F0 m (pc + 1) ls (.long (f x.toNatClampNeg) :: rest))) : W p l e R s m args below meth c H locs cells slots Q (F0 m pc ls (.int x :: .ref (L i) :: rest)) := by
  obtain ⟨ws, hP, hD, h3, h4⟩ := hw
  obtain ⟨k0, hk0⟩ := h3 i _ hi
  exact va_lald X.1.1 X.1.2.1 X.2.1.1 hP k0 1 hk0 rfl hin hdg kk
theorem m_zald {n : Nat} {f : Nat → Int32} {x : Int32} (X : mX Γ p m c cc nL s args own A) (hw : mW Γ.1 vwCl A L M H) (hi : mget M i = some (.inl (Γ.2.1 2, n, .inl f))) (hin : vp_in x n) (hdg : decode cc pc = .ok (.baload, 1))
    (kk : W p l e R s m args below meth c H locs cells slots Q (F0 m (pc + 1) ls (.int (f x.toNatClampNeg) :: rest))) : W p l e R s m args below meth c H locs cells slots Q (F0 m pc ls (.int x :: .ref (L i) :: rest)) := by
  obtain ⟨ws, hP, hD, h3, h4⟩ := hw
  obtain ⟨k0, hk0⟩ := h3 i _ hi
  exact va_zald X.1.1 X.1.2.1 X.2.1.1 hP k0 2 hk0 rfl hin hdg kk
theorem m_aald {n t : Nat} {C : String} {f : Nat → Option Nat} {x : Int32} (X : mX Γ p m c cc nL s args own A) (hw : mW Γ.1 vwCl A L M H) (ht : (mTy Γ)[t]? = some (Γ.2.1 t, .object C)) (hi : mget M i = some (.inl (Γ.2.1 t, n, .inr (.inr (.inr (.inr f)))))) (hin : vp_in x n) (hdg : decode cc pc = .ok (.aaload, 1))
    (kk : W p l e R s m args below meth c H locs cells slots Q (F0 m (pc + 1) ls (va_rf (f x.toNatClampNeg) :: rest))) : W p l e R s m args below meth c H locs cells slots Q (F0 m pc ls (.int x :: .ref (L i) :: rest)) := by
  obtain ⟨ws, hP, hD, h3, h4⟩ := hw
  obtain ⟨k0, hk0⟩ := h3 i _ hi
  exact va_aldq X.1.1 X.1.2.1 X.2.1.1 hP k0 t hk0 ht hin hdg kk
theorem m_iast {n : Nat} {f : Nat → Int32} {x v : Int32} (X : mX Γ p m c cc nL s args own A) (hw : mW Γ.1 vwCl A L M H) (hS : va_S A s.heap H locs) (hi : mget M i = some (.inl (Γ.2.1 0, n, .inl f))) (hin : vp_in x n) (hdg : decode cc pc = .ok (.iastore, 1))
    (kk : ∀ (H1 : Heap) (locs1 : List Loc), mW Γ.1 vwCl A L (mset M i (.inl (Γ.2.1 0, n, .inl (upd f x.toNatClampNeg v)))) H1 → va_S A s.heap H1 locs1 → W p l e R s m args below meth c H1 locs1 cells slots Q (F0 m (pc + 1) ls rest)) : W p l e R s m args below meth c H locs cells slots Q (F0 m pc ls (.int v :: .int x :: .ref (L i) :: rest)) := by
  obtain ⟨ws, hP, hD, h3, h4⟩ := hw
  obtain ⟨k0, hk0⟩ := h3 i _ hi
  exact va_iast X.1.1 X.1.2.1 X.2.1.1 hP hD hS k0 0 hk0 rfl hin hdg (fun H1 locs1 hP1 hD1 hS1 => kk H1 locs1 (mW.set hk0 hi h3 h4 hP1 hD1) hS1)
theorem m_zast {n : Nat} {f : Nat → Int32} {x v : Int32} (X : mX Γ p m c cc nL s args own A) (hw : mW Γ.1 vwCl A L M H) (hS : va_S A s.heap H locs) (hi : mget M i = some (.inl (Γ.2.1 2, n, .inl f))) (hin : vp_in x n) (hdg : decode cc pc = .ok (.bastore, 1))
    (kk : ∀ (H1 : Heap) (locs1 : List Loc), mW Γ.1 vwCl A L (mset M i (.inl (Γ.2.1 2, n, .inl (upd f x.toNatClampNeg (vp_nar .boolean v))))) H1 → va_S A s.heap H1 locs1 → W p l e R s m args below meth c H1 locs1 cells slots Q (F0 m (pc + 1) ls rest)) : W p l e R s m args below meth c H locs cells slots Q (F0 m pc ls (.int v :: .int x :: .ref (L i) :: rest)) := by
  obtain ⟨ws, hP, hD, h3, h4⟩ := hw
  obtain ⟨k0, hk0⟩ := h3 i _ hi
  exact va_zast X.1.1 X.1.2.1 X.2.1.1 hP hD hS k0 2 hk0 rfl hin hdg (fun H1 locs1 hP1 hD1 hS1 => kk H1 locs1 (mW.set hk0 hi h3 h4 hP1 hD1) hS1)
theorem m_last {n : Nat} {f : Nat → Int64} {x : Int32} {v : Int64} (X : mX Γ p m c cc nL s args own A) (hw : mW Γ.1 vwCl A L M H) (hS : va_S A s.heap H locs) (hi : mget M i = some (.inl (Γ.2.1 1, n, .inr (.inl f)))) (hin : vp_in x n) (hdg : decode cc pc = .ok (.lastore, 1))
    (kk : ∀ (H1 : Heap) (locs1 : List Loc), mW Γ.1 vwCl A L (mset M i (.inl (Γ.2.1 1, n, .inr (.inl (vp_updL f x.toNatClampNeg v))))) H1 → va_S A s.heap H1 locs1 → W p l e R s m args below meth c H1 locs1 cells slots Q (F0 m (pc + 1) ls rest)) : W p l e R s m args below meth c H locs cells slots Q (F0 m pc ls (.long v :: .int x :: .ref (L i) :: rest)) := by
  obtain ⟨ws, hP, hD, h3, h4⟩ := hw
  obtain ⟨k0, hk0⟩ := h3 i _ hi
  exact va_last X.1.1 X.1.2.1 X.2.1.1 hP hD hS k0 1 hk0 rfl hin hdg (fun H1 locs1 hP1 hD1 hS1 => kk H1 locs1 (mW.set hk0 hi h3 h4 hP1 hD1) hS1)
theorem m_aast {n t ci : Nat} {j : mI} {q : vw_C} {f : Nat → Option Nat} {fs : List Value} {x : Int32} (X : mX Γ p m c cc nL s args own A) (hw : mW Γ.1 vwCl A L M H) (hS : va_S A s.heap H locs) (ht : (mTy Γ)[t]? = some (Γ.2.1 t, .object q.1)) (hi : mget M i = some (.inl (Γ.2.1 t, n, .inr (.inr (.inr (.inr f)))))) (hj : mget M j = some (.inr (ci, fs))) (hc : vwCl[ci]? = some q) (hin : vp_in x n) (hdg : decode cc pc = .ok (.aastore, 1))
    (kk : ∀ (H1 : Heap) (locs1 : List Loc), mW Γ.1 vwCl A L (mset M i (.inl (Γ.2.1 t, n, .inr (.inr (.inr (.inr (va_up f x.toNatClampNeg (some (L j)))))))))  H1 → va_S A s.heap H1 locs1 → W p l e R s m args below meth c H1 locs1 cells slots Q (F0 m (pc + 1) ls rest)) : W p l e R s m args below meth c H locs cells slots Q (F0 m pc ls (.ref (L j) :: .int x :: .ref (L i) :: rest)) := by
  obtain ⟨ws, hP, hD, h3, h4⟩ := hw
  obtain ⟨k0, hk0⟩ := h3 i _ hi
  obtain ⟨k1, hk1⟩ := h3 j _ hj
  exact va_astq X.1.1 X.1.2.1 X.2.1.1 hP hD hS k0 t k1 ci hk0 ht hk1 hc hin hdg (fun H1 locs1 hP1 hD1 hS1 => kk H1 locs1 (mW.set hk0 hi h3 h4 hP1 hD1) hS1)
theorem m_new {C : String} {T : u_T} {N ci index : Nat} {fs : List Value} {M' : mM} (X : mX Γ p m c cc nL s args own A) (hw : mW Γ.1 vwCl A L M H) (hS : va_S A s.heap H locs) (i : mI) (hc : vwCl[ci]? = some (C, T, N)) (hin : ∀ w ∈ u_ws C T N, w ∈ gw) (ty : Nat → FieldType) (hty : ∀ k, k < N → parseFieldDescriptor (T k).2.2.1 = some (ty k)) (hcl : Cond.classLink own index C ∈ gw) (hins : Cond.instantiable C N ∈ gw) (hini : Cond.initialized C ∈ gw) (hfs : ∀ j, j < N → defaultValue (ty j) = vp_V fs j) (h1 : mget M' i = some (.inr (ci, fs))) (h2 : ∀ j, j ≠ i → mget M' j = mget M j) (hcells : cells + 1 ≤ R.cells) (hslots : slots + N ≤ R.slots) (hdg : decode cc pc = .ok (.new index, 3))
    (kk : ∀ (q : Nat) (H1 : Heap), mW Γ.1 vwCl A (updI L i q) M' H1 → va_S A s.heap H1 locs → W p l e R s m args below meth c H1 locs (cells + 1) (slots + N) Q (F0 m (pc + 3) ls (.ref q :: rest))) : W p l e R s m args below meth c H locs cells slots Q (F0 m pc ls rest) := by
  obtain ⟨ws, hP, hD, h3, h4⟩ := hw
  have ht := X.1.2.2.2.2
  exact va_new X.1.1 X.1.2.1 ht hin ty hty X.1.2.2.2.1 (ht _ hcl) (ht _ hins) (ht _ hini) X.2.1.1 hP hD hS X.2.2.2 hc hfs hcells hslots hdg (fun q H1 hP1 hD1 hS1 => kk q H1 (mW.grow h3 h4 hP1 hD1 h1 h2) hS1)
theorem m_newa {atype : ArrayType} {ty : FieldType} {t N' : Nat} {n : Int32} {a0 : vp_A} {M' : mM} (X : mX Γ p m c cc nL s args own A) (hw : mW Γ.1 vwCl A L M H) (hS : va_S A s.heap H locs) (i : mI) (ht : (mTy Γ)[t]? = some (Γ.2.1 t, ty)) (hty : newarray.typeOf atype = ty) (hra : ∀ (U : State) (cA : ClassId), va_RA U cA ty → U.vm.findClass ("[" ++ ty.toString) = some cA) (hac : Cond.arrayClass ty ∈ gw) (ha : ∀ cA : ClassId, vp_cell cA a0 = arrV cA N' (fun _ => defaultValue ty)) (hn : ¬ n < 0) (hN : n.toNatClampNeg = N') (hbytes : N' * componentBytes ty ≤ 536870912) (h1 : mget M' i = some (.inl (Γ.2.1 t, a0))) (h2 : ∀ j, j ≠ i → mget M' j = mget M j) (hcells : cells + 1 ≤ R.cells) (hslots : slots + N' ≤ R.slots) (hdg : decode cc pc = .ok (.newarray atype, 2))
    (kk : ∀ (q : Nat) (H1 : Heap), mW Γ.1 vwCl A (updI L i q) M' H1 → va_S A s.heap H1 locs → W p l e R s m args below meth c H1 locs (cells + 1) (slots + N') Q (F0 m (pc + 2) ls (.ref q :: rest))) : W p l e R s m args below meth c H locs cells slots Q (F0 m pc ls (.int n :: rest)) := by
  obtain ⟨ws, hP, hD, h3, h4⟩ := hw
  have hts := X.1.2.2.2.2
  refine va_newa X.1.1 X.1.2.1 (by rw [hty]; exact hts _ hac) hty X.2.1.1 hP hD hS X.2.2.2 ha hn hN hbytes hcells hslots hdg (fun q cA H1 hK1 hP1 hD1 hS1 => ?_)
  have e : cA = Γ.2.1 t := by
    have z1 := hra s cA (hK1.2 (mTy Γ).length (cA, ty) (by simp)).2
    have z2 := hra s (Γ.2.1 t) (X.2.1.1.2 t _ ht).2
    exact Option.some.inj (z1.symm.trans z2)
  subst e
  exact kk q H1 (mW.grow h3 h4 hP1 hD1 h1 h2) hS1
theorem m_newq {C : String} {index t N' : Nat} {n : Int32} {M' : mM} (X : mX Γ p m c cc nL s args own A) (hw : mW Γ.1 vwCl A L M H) (hS : va_S A s.heap H locs) (i : mI) (ht : (mTy Γ)[t]? = some (Γ.2.1 t, .object C)) (hcl : Cond.classLink own index C ∈ gw) (ho : va_AO C s) (hn : ¬ n < 0) (hN : n.toNatClampNeg = N') (hbytes : N' * 4 ≤ 536870912) (h1 : mget M' i = some (.inl (Γ.2.1 t, N', .inr (.inr (.inr (.inr (fun _ => none))))))) (h2 : ∀ j, j ≠ i → mget M' j = mget M j) (hcells : cells + 1 ≤ R.cells) (hslots : slots + N' ≤ R.slots) (hdg : decode cc pc = .ok (.anewarray index, 3))
    (kk : ∀ (q : Nat) (H1 : Heap), mW Γ.1 vwCl A (updI L i q) M' H1 → va_S A s.heap H1 locs → W p l e R s m args below meth c H1 locs (cells + 1) (slots + N') Q (F0 m (pc + 3) ls (.ref q :: rest))) : W p l e R s m args below meth c H locs cells slots Q (F0 m pc ls (.int n :: rest)) := by
  obtain ⟨ws, hP, hD, h3, h4⟩ := hw
  have hts := X.1.2.2.2.2
  refine va_newq X.1.1 X.1.2.1 X.1.2.2.2.1 (hts _ hcl) ho X.2.1.1 hP hD hS X.2.2.2 hn hN hbytes hcells hslots hdg (fun q cA H1 hK1 hP1 hD1 hS1 => ?_)
  have e : cA = Γ.2.1 t := by
    obtain ⟨_, _, _, _, _, z1⟩ := (hK1.2 (mTy Γ).length (cA, .object C) (by simp)).2
    obtain ⟨_, _, _, _, _, z2⟩ := (X.2.1.1.2 t _ ht).2
    exact Option.some.inj (z1.symm.trans z2)
  subst e
  exact kk q H1 (mW.grow h3 h4 hP1 hD1 h1 h2) hS1
theorem m_copyi {i0 : mI} {index n0 n1 : Nat} {f g : Nat → Int32} {sp dp n : Int32} (X : mX Γ p m c cc nL s args own A) (hw : mW Γ.1 vwCl A L M H) (hS : va_S A s.heap H locs) (hsz : ls.size = nL) (hl : Cond.methodLink own index arraycopyName ∈ gw) (hi0 : mget M i0 = some (.inl (Γ.2.1 0, n0, .inl f))) (hi : mget M i = some (.inl (Γ.2.1 0, n1, .inl g))) (h1 : ¬ sp < 0) (h2 : ¬ dp < 0) (h3 : ¬ n < 0) (h4 : sp.toNatClampNeg + n.toNatClampNeg ≤ n0) (h5 : dp.toNatClampNeg + n.toNatClampNeg ≤ n1) (hfr : 1 ≤ R.frames) (hlo : (rest.map fun v => v.category).sum + (nativeFrameWords "java/lang/System" "arraycopy" 5 + 11) ≤ R.locals) (hdg : decode cc pc = .ok (.invokestatic index, 3))
    (kk : ∀ (H1 : Heap) (locs1 : List Loc), mW Γ.1 vwCl A L (mset M i (.inl (Γ.2.1 0, n1, .inl (va_cpy f g sp.toNatClampNeg dp.toNatClampNeg n.toNatClampNeg)))) H1 → va_S A s.heap H1 locs1 → W p l e R s m args below meth c H1 locs1 cells slots Q (F0 m (pc + 3) ls rest)) : W p l e R s m args below meth c H locs cells slots Q (F0 m pc ls (.int n :: .int dp :: .ref (L i) :: .int sp :: .ref (L i0) :: rest)) := by
  obtain ⟨ws, hP, hD, w3, w4⟩ := hw
  obtain ⟨k0, hk0⟩ := w3 i0 _ hi0
  obtain ⟨k1, hk1⟩ := w3 i _ hi
  have hts := X.1.2.2.2.2
  exact va_copyi X.1.1 X.1.2.1 (by rw [X.1.2.2.1, hsz]) X.1.2.2.2.1 (hts _ hl) (hts _ nat_copy) (hts _ st_arraycopyName) (hts _ ini_J10) X.2.1.1 hP hD hS k0 k1 0 0 hk0 hk1 rfl rfl rfl h1 h2 h3 h4 h5 (fun _ _ => rfl) hfr hlo hdg (fun H1 locs1 hP1 hD1 hS1 => kk H1 locs1 (mW.set hk1 hi w3 w4 hP1 hD1) hS1)
/-- the static tables -/
theorem m_getUN {index : Nat} {ref : String} (X : mX Γ p m c cc nL s args own A) (hS : va_S A s.heap H locs) (hlink : Cond.fieldLink own index ref "UNDER" "[I" ∈ gw) (hself : ref = RX3) (hdg : decode cc pc = .ok (.getstatic index, 3))
    (kk : W p l e R s m args below meth c H locs cells slots Q (F0 m (pc + 3) ls (.ref (Γ.2.2 0) :: rest))) : W p l e R s m args below meth c H locs cells slots Q (F0 m pc ls rest) :=
  va_gets X.1.1 X.1.2.1 X.2.2.1.1 hS X.1.2.2.2.1 (X.1.2.2.2.2 _ hlink) (fun x h => by rw [hself]; exact h) hdg kk
theorem m_getAB {index : Nat} {ref : String} (X : mX Γ p m c cc nL s args own A) (hS : va_S A s.heap H locs) (hlink : Cond.fieldLink own index ref "ABOVE" "[I" ∈ gw) (hself : ref = RX3) (hdg : decode cc pc = .ok (.getstatic index, 3))
    (kk : W p l e R s m args below meth c H locs cells slots Q (F0 m (pc + 3) ls (.ref (Γ.2.2 1) :: rest))) : W p l e R s m args below meth c H locs cells slots Q (F0 m pc ls rest) :=
  va_gets X.1.1 X.1.2.1 X.2.2.1.2.2.1 hS X.1.2.2.2.1 (X.1.2.2.2.2 _ hlink) (fun x h => by rw [hself]; exact h) hdg kk
theorem m_ldUN {x : Int32} (X : mX Γ p m c cc nL s args own A) (hS : va_S A s.heap H locs) (hin : vp_in x 8) (hdg : decode cc pc = .ok (.iaload, 1))
    (kk : W p l e R s m args below meth c H locs cells slots Q (F0 m (pc + 1) ls (.int (mUN x.toNatClampNeg) :: rest))) : W p l e R s m args below meth c H locs cells slots Q (F0 m pc ls (.int x :: .ref (Γ.2.2 0) :: rest)) :=
  va_ti X.1.1 X.1.2.1 X.2.2.1.2.1 hS hin rfl hdg kk
theorem m_ldAB {x : Int32} (X : mX Γ p m c cc nL s args own A) (hS : va_S A s.heap H locs) (hin : vp_in x 8) (hdg : decode cc pc = .ok (.iaload, 1))
    (kk : W p l e R s m args below meth c H locs cells slots Q (F0 m (pc + 1) ls (.int (mAB x.toNatClampNeg) :: rest))) : W p l e R s m args below meth c H locs cells slots Q (F0 m pc ls (.int x :: .ref (Γ.2.2 1) :: rest)) :=
  va_ti X.1.1 X.1.2.1 X.2.2.1.2.2.2 hS hin rfl hdg kk
end MI
end
section
/-! THE REFERENCE: its state x: x.1 k the field k (an int or 0, 1), x.2.1 k the int (or boolean) array of field k, x.2.2 k the long array of field k -/
abbrev RS : Type := (Nat → Int32) × (Nat → Nat → Int32) × (Nat → Nat → Int64)
def sS (x : RS) (k : Nat) (v : Int32) : RS := (upd x.1 k v, x.2)
def sA (x : RS) (k j : Nat) (v : Int32) : RS := (x.1, va_up x.2.1 k (upd (x.2.1 k) j v), x.2.2)
def sJ (x : RS) (k j : Nat) (v : Int64) : RS := (x.1, x.2.1, va_up x.2.2 k (vp_updL (x.2.2 k) j v))
def rF (L : mI → Nat) (x : RS) : List Value := [.int (x.1 0), .ref (L (.inr (0, 1, 0))), .ref (L (.inr (0, 2, 0))), .ref (L (.inr (0, 3, 0))), .ref (L (.inr (0, 4, 0))), .ref (L (.inr (0, 5, 0))), .ref (L (.inr (0, 6, 0))), .ref (L (.inr (0, 7, 0))), .ref (L (.inr (0, 8, 0))), .ref (L (.inr (0, 9, 0))), .int (x.1 10), .ref (L (.inr (0, 11, 0))), .ref (L (.inr (0, 12, 0))), .int (x.1 13), .ref (L (.inr (0, 14, 0))), .int (x.1 15), .int (x.1 16), .ref (L (.inr (0, 17, 0))), .ref (L (.inr (0, 18, 0))), .ref (L (.inr (0, 19, 0))), .ref (L (.inr (0, 20, 0))), .ref (L (.inr (0, 21, 0))), .int (x.1 22), .int (x.1 23), .ref (L (.inr (0, 24, 0))), .ref (L (.inr (0, 25, 0))), .ref (L (.inr (0, 26, 0))), .ref (L (.inr (0, 27, 0))), .int (x.1 28), .int (x.1 29), .int (x.1 30), .int (x.1 31), .int (x.1 32), .int (x.1 33), .int (x.1 34)]
def rA (Γ : mG) (x : RS) : Nat → Nat → Option va_E := fun k b => match b with
  | 0 => match k with
    | 1 => some (.inl (Γ.2.1 0, 8, .inl (x.2.1 1)))
    | 2 => some (.inl (Γ.2.1 0, 8, .inl (x.2.1 2)))
    | 3 => some (.inl (Γ.2.1 0, 320, .inl (x.2.1 3)))
    | 4 => some (.inl (Γ.2.1 1, 320, .inr (.inl (x.2.2 4))))
    | 5 => some (.inl (Γ.2.1 0, 8, .inl (x.2.1 5)))
    | 6 => some (.inl (Γ.2.1 0, 192, .inl (x.2.1 6)))
    | 7 => some (.inl (Γ.2.1 0, 320, .inl (x.2.1 7)))
    | 8 => some (.inl (Γ.2.1 0, 5120, .inl (x.2.1 8)))
    | 9 => some (.inl (Γ.2.1 2, 8, .inl (x.2.1 9)))
    | 11 => some (.inl (Γ.2.1 0, 40, .inl (x.2.1 11)))
    | 12 => some (.inl (Γ.2.1 0, 640, .inl (x.2.1 12)))
    | 14 => some (.inl (Γ.2.1 0, 16, .inl (x.2.1 14)))
    | 17 => some (.inl (Γ.2.1 0, 8, .inl (x.2.1 17)))
    | 18 => some (.inl (Γ.2.1 1, 128, .inr (.inl (x.2.2 18))))
    | 19 => some (.inl (Γ.2.1 0, 8, .inl (x.2.1 19)))
    | 20 => some (.inl (Γ.2.1 0, 8, .inl (x.2.1 20)))
    | 21 => some (.inl (Γ.2.1 0, 8, .inl (x.2.1 21)))
    | 24 => some (.inl (Γ.2.1 0, 20, .inl (x.2.1 24)))
    | 25 => some (.inl (Γ.2.1 0, 20, .inl (x.2.1 25)))
    | 26 => some (.inl (Γ.2.1 0, 20, .inl (x.2.1 26)))
    | 27 => some (.inl (Γ.2.1 1, 600, .inr (.inl (x.2.2 27))))
    | _ => none
  | _ + 1 => none
def rM (Γ : mG) (L : mI → Nat) (x : RS) : mM := ([.inr (8, rF L x)], [rA Γ x])
theorem rU_1 (Γ : mG) (x : RS) (j : Nat) (v : Int32) : up2 (rA Γ x) 1 0 (.inl (Γ.2.1 0, 8, .inl (upd (x.2.1 1) j v))) = rA Γ (sA x 1 j v) := by
  funext a b
  by_cases h : a = 1 ∧ b = 0
  · obtain ⟨rfl, rfl⟩ := h
    simp [up2, rA, sA, va_up]
  · simp only [up2, if_neg h]
    match b, a, h with
    | 0, 0, _ => rfl
    | 0, 1, h => exact absurd ⟨rfl, rfl⟩ h
    | 0, 2, _ => rfl
    | 0, 3, _ => rfl
    | 0, 4, _ => rfl
    | 0, 5, _ => rfl
    | 0, 6, _ => rfl
    | 0, 7, _ => rfl
    | 0, 8, _ => rfl
    | 0, 9, _ => rfl
    | 0, 10, _ => rfl
    | 0, 11, _ => rfl
    | 0, 12, _ => rfl
    | 0, 13, _ => rfl
    | 0, 14, _ => rfl
    | 0, 15, _ => rfl
    | 0, 16, _ => rfl
    | 0, 17, _ => rfl
    | 0, 18, _ => rfl
    | 0, 19, _ => rfl
    | 0, 20, _ => rfl
    | 0, 21, _ => rfl
    | 0, 22, _ => rfl
    | 0, 23, _ => rfl
    | 0, 24, _ => rfl
    | 0, 25, _ => rfl
    | 0, 26, _ => rfl
    | 0, 27, _ => rfl
    | 0, _ + 28, _ => rfl
    | _ + 1, _, _ => rfl
theorem rU_2 (Γ : mG) (x : RS) (j : Nat) (v : Int32) : up2 (rA Γ x) 2 0 (.inl (Γ.2.1 0, 8, .inl (upd (x.2.1 2) j v))) = rA Γ (sA x 2 j v) := by
  funext a b
  by_cases h : a = 2 ∧ b = 0
  · obtain ⟨rfl, rfl⟩ := h
    simp [up2, rA, sA, va_up]
  · simp only [up2, if_neg h]
    match b, a, h with
    | 0, 0, _ => rfl
    | 0, 1, _ => rfl
    | 0, 2, h => exact absurd ⟨rfl, rfl⟩ h
    | 0, 3, _ => rfl
    | 0, 4, _ => rfl
    | 0, 5, _ => rfl
    | 0, 6, _ => rfl
    | 0, 7, _ => rfl
    | 0, 8, _ => rfl
    | 0, 9, _ => rfl
    | 0, 10, _ => rfl
    | 0, 11, _ => rfl
    | 0, 12, _ => rfl
    | 0, 13, _ => rfl
    | 0, 14, _ => rfl
    | 0, 15, _ => rfl
    | 0, 16, _ => rfl
    | 0, 17, _ => rfl
    | 0, 18, _ => rfl
    | 0, 19, _ => rfl
    | 0, 20, _ => rfl
    | 0, 21, _ => rfl
    | 0, 22, _ => rfl
    | 0, 23, _ => rfl
    | 0, 24, _ => rfl
    | 0, 25, _ => rfl
    | 0, 26, _ => rfl
    | 0, 27, _ => rfl
    | 0, _ + 28, _ => rfl
    | _ + 1, _, _ => rfl
theorem rU_3 (Γ : mG) (x : RS) (j : Nat) (v : Int32) : up2 (rA Γ x) 3 0 (.inl (Γ.2.1 0, 320, .inl (upd (x.2.1 3) j v))) = rA Γ (sA x 3 j v) := by
  funext a b
  by_cases h : a = 3 ∧ b = 0
  · obtain ⟨rfl, rfl⟩ := h
    simp [up2, rA, sA, va_up]
  · simp only [up2, if_neg h]
    match b, a, h with
    | 0, 0, _ => rfl
    | 0, 1, _ => rfl
    | 0, 2, _ => rfl
    | 0, 3, h => exact absurd ⟨rfl, rfl⟩ h
    | 0, 4, _ => rfl
    | 0, 5, _ => rfl
    | 0, 6, _ => rfl
    | 0, 7, _ => rfl
    | 0, 8, _ => rfl
    | 0, 9, _ => rfl
    | 0, 10, _ => rfl
    | 0, 11, _ => rfl
    | 0, 12, _ => rfl
    | 0, 13, _ => rfl
    | 0, 14, _ => rfl
    | 0, 15, _ => rfl
    | 0, 16, _ => rfl
    | 0, 17, _ => rfl
    | 0, 18, _ => rfl
    | 0, 19, _ => rfl
    | 0, 20, _ => rfl
    | 0, 21, _ => rfl
    | 0, 22, _ => rfl
    | 0, 23, _ => rfl
    | 0, 24, _ => rfl
    | 0, 25, _ => rfl
    | 0, 26, _ => rfl
    | 0, 27, _ => rfl
    | 0, _ + 28, _ => rfl
    | _ + 1, _, _ => rfl
theorem rU_4 (Γ : mG) (x : RS) (j : Nat) (v : Int64) : up2 (rA Γ x) 4 0 (.inl (Γ.2.1 1, 320, .inr (.inl (vp_updL (x.2.2 4) j v)))) = rA Γ (sJ x 4 j v) := by
  funext a b
  by_cases h : a = 4 ∧ b = 0
  · obtain ⟨rfl, rfl⟩ := h
    simp [up2, rA, sJ, va_up]
  · simp only [up2, if_neg h]
    match b, a, h with
    | 0, 0, _ => rfl
    | 0, 1, _ => rfl
    | 0, 2, _ => rfl
    | 0, 3, _ => rfl
    | 0, 4, h => exact absurd ⟨rfl, rfl⟩ h
    | 0, 5, _ => rfl
    | 0, 6, _ => rfl
    | 0, 7, _ => rfl
    | 0, 8, _ => rfl
    | 0, 9, _ => rfl
    | 0, 10, _ => rfl
    | 0, 11, _ => rfl
    | 0, 12, _ => rfl
    | 0, 13, _ => rfl
    | 0, 14, _ => rfl
    | 0, 15, _ => rfl
    | 0, 16, _ => rfl
    | 0, 17, _ => rfl
    | 0, 18, _ => rfl
    | 0, 19, _ => rfl
    | 0, 20, _ => rfl
    | 0, 21, _ => rfl
    | 0, 22, _ => rfl
    | 0, 23, _ => rfl
    | 0, 24, _ => rfl
    | 0, 25, _ => rfl
    | 0, 26, _ => rfl
    | 0, 27, _ => rfl
    | 0, _ + 28, _ => rfl
    | _ + 1, _, _ => rfl
theorem rU_5 (Γ : mG) (x : RS) (j : Nat) (v : Int32) : up2 (rA Γ x) 5 0 (.inl (Γ.2.1 0, 8, .inl (upd (x.2.1 5) j v))) = rA Γ (sA x 5 j v) := by
  funext a b
  by_cases h : a = 5 ∧ b = 0
  · obtain ⟨rfl, rfl⟩ := h
    simp [up2, rA, sA, va_up]
  · simp only [up2, if_neg h]
    match b, a, h with
    | 0, 0, _ => rfl
    | 0, 1, _ => rfl
    | 0, 2, _ => rfl
    | 0, 3, _ => rfl
    | 0, 4, _ => rfl
    | 0, 5, h => exact absurd ⟨rfl, rfl⟩ h
    | 0, 6, _ => rfl
    | 0, 7, _ => rfl
    | 0, 8, _ => rfl
    | 0, 9, _ => rfl
    | 0, 10, _ => rfl
    | 0, 11, _ => rfl
    | 0, 12, _ => rfl
    | 0, 13, _ => rfl
    | 0, 14, _ => rfl
    | 0, 15, _ => rfl
    | 0, 16, _ => rfl
    | 0, 17, _ => rfl
    | 0, 18, _ => rfl
    | 0, 19, _ => rfl
    | 0, 20, _ => rfl
    | 0, 21, _ => rfl
    | 0, 22, _ => rfl
    | 0, 23, _ => rfl
    | 0, 24, _ => rfl
    | 0, 25, _ => rfl
    | 0, 26, _ => rfl
    | 0, 27, _ => rfl
    | 0, _ + 28, _ => rfl
    | _ + 1, _, _ => rfl
theorem rU_6 (Γ : mG) (x : RS) (j : Nat) (v : Int32) : up2 (rA Γ x) 6 0 (.inl (Γ.2.1 0, 192, .inl (upd (x.2.1 6) j v))) = rA Γ (sA x 6 j v) := by
  funext a b
  by_cases h : a = 6 ∧ b = 0
  · obtain ⟨rfl, rfl⟩ := h
    simp [up2, rA, sA, va_up]
  · simp only [up2, if_neg h]
    match b, a, h with
    | 0, 0, _ => rfl
    | 0, 1, _ => rfl
    | 0, 2, _ => rfl
    | 0, 3, _ => rfl
    | 0, 4, _ => rfl
    | 0, 5, _ => rfl
    | 0, 6, h => exact absurd ⟨rfl, rfl⟩ h
    | 0, 7, _ => rfl
    | 0, 8, _ => rfl
    | 0, 9, _ => rfl
    | 0, 10, _ => rfl
    | 0, 11, _ => rfl
    | 0, 12, _ => rfl
    | 0, 13, _ => rfl
    | 0, 14, _ => rfl
    | 0, 15, _ => rfl
    | 0, 16, _ => rfl
    | 0, 17, _ => rfl
    | 0, 18, _ => rfl
    | 0, 19, _ => rfl
    | 0, 20, _ => rfl
    | 0, 21, _ => rfl
    | 0, 22, _ => rfl
    | 0, 23, _ => rfl
    | 0, 24, _ => rfl
    | 0, 25, _ => rfl
    | 0, 26, _ => rfl
    | 0, 27, _ => rfl
    | 0, _ + 28, _ => rfl
    | _ + 1, _, _ => rfl
theorem rU_7 (Γ : mG) (x : RS) (j : Nat) (v : Int32) : up2 (rA Γ x) 7 0 (.inl (Γ.2.1 0, 320, .inl (upd (x.2.1 7) j v))) = rA Γ (sA x 7 j v) := by
  funext a b
  by_cases h : a = 7 ∧ b = 0
  · obtain ⟨rfl, rfl⟩ := h
    simp [up2, rA, sA, va_up]
  · simp only [up2, if_neg h]
    match b, a, h with
    | 0, 0, _ => rfl
    | 0, 1, _ => rfl
    | 0, 2, _ => rfl
    | 0, 3, _ => rfl
    | 0, 4, _ => rfl
    | 0, 5, _ => rfl
    | 0, 6, _ => rfl
    | 0, 7, h => exact absurd ⟨rfl, rfl⟩ h
    | 0, 8, _ => rfl
    | 0, 9, _ => rfl
    | 0, 10, _ => rfl
    | 0, 11, _ => rfl
    | 0, 12, _ => rfl
    | 0, 13, _ => rfl
    | 0, 14, _ => rfl
    | 0, 15, _ => rfl
    | 0, 16, _ => rfl
    | 0, 17, _ => rfl
    | 0, 18, _ => rfl
    | 0, 19, _ => rfl
    | 0, 20, _ => rfl
    | 0, 21, _ => rfl
    | 0, 22, _ => rfl
    | 0, 23, _ => rfl
    | 0, 24, _ => rfl
    | 0, 25, _ => rfl
    | 0, 26, _ => rfl
    | 0, 27, _ => rfl
    | 0, _ + 28, _ => rfl
    | _ + 1, _, _ => rfl
theorem rU_8 (Γ : mG) (x : RS) (j : Nat) (v : Int32) : up2 (rA Γ x) 8 0 (.inl (Γ.2.1 0, 5120, .inl (upd (x.2.1 8) j v))) = rA Γ (sA x 8 j v) := by
  funext a b
  by_cases h : a = 8 ∧ b = 0
  · obtain ⟨rfl, rfl⟩ := h
    simp [up2, rA, sA, va_up]
  · simp only [up2, if_neg h]
    match b, a, h with
    | 0, 0, _ => rfl
    | 0, 1, _ => rfl
    | 0, 2, _ => rfl
    | 0, 3, _ => rfl
    | 0, 4, _ => rfl
    | 0, 5, _ => rfl
    | 0, 6, _ => rfl
    | 0, 7, _ => rfl
    | 0, 8, h => exact absurd ⟨rfl, rfl⟩ h
    | 0, 9, _ => rfl
    | 0, 10, _ => rfl
    | 0, 11, _ => rfl
    | 0, 12, _ => rfl
    | 0, 13, _ => rfl
    | 0, 14, _ => rfl
    | 0, 15, _ => rfl
    | 0, 16, _ => rfl
    | 0, 17, _ => rfl
    | 0, 18, _ => rfl
    | 0, 19, _ => rfl
    | 0, 20, _ => rfl
    | 0, 21, _ => rfl
    | 0, 22, _ => rfl
    | 0, 23, _ => rfl
    | 0, 24, _ => rfl
    | 0, 25, _ => rfl
    | 0, 26, _ => rfl
    | 0, 27, _ => rfl
    | 0, _ + 28, _ => rfl
    | _ + 1, _, _ => rfl
theorem rU_9 (Γ : mG) (x : RS) (j : Nat) (v : Int32) : up2 (rA Γ x) 9 0 (.inl (Γ.2.1 2, 8, .inl (upd (x.2.1 9) j v))) = rA Γ (sA x 9 j v) := by
  funext a b
  by_cases h : a = 9 ∧ b = 0
  · obtain ⟨rfl, rfl⟩ := h
    simp [up2, rA, sA, va_up]
  · simp only [up2, if_neg h]
    match b, a, h with
    | 0, 0, _ => rfl
    | 0, 1, _ => rfl
    | 0, 2, _ => rfl
    | 0, 3, _ => rfl
    | 0, 4, _ => rfl
    | 0, 5, _ => rfl
    | 0, 6, _ => rfl
    | 0, 7, _ => rfl
    | 0, 8, _ => rfl
    | 0, 9, h => exact absurd ⟨rfl, rfl⟩ h
    | 0, 10, _ => rfl
    | 0, 11, _ => rfl
    | 0, 12, _ => rfl
    | 0, 13, _ => rfl
    | 0, 14, _ => rfl
    | 0, 15, _ => rfl
    | 0, 16, _ => rfl
    | 0, 17, _ => rfl
    | 0, 18, _ => rfl
    | 0, 19, _ => rfl
    | 0, 20, _ => rfl
    | 0, 21, _ => rfl
    | 0, 22, _ => rfl
    | 0, 23, _ => rfl
    | 0, 24, _ => rfl
    | 0, 25, _ => rfl
    | 0, 26, _ => rfl
    | 0, 27, _ => rfl
    | 0, _ + 28, _ => rfl
    | _ + 1, _, _ => rfl
theorem rU_11 (Γ : mG) (x : RS) (j : Nat) (v : Int32) : up2 (rA Γ x) 11 0 (.inl (Γ.2.1 0, 40, .inl (upd (x.2.1 11) j v))) = rA Γ (sA x 11 j v) := by
  funext a b
  by_cases h : a = 11 ∧ b = 0
  · obtain ⟨rfl, rfl⟩ := h
    simp [up2, rA, sA, va_up]
  · simp only [up2, if_neg h]
    match b, a, h with
    | 0, 0, _ => rfl
    | 0, 1, _ => rfl
    | 0, 2, _ => rfl
    | 0, 3, _ => rfl
    | 0, 4, _ => rfl
    | 0, 5, _ => rfl
    | 0, 6, _ => rfl
    | 0, 7, _ => rfl
    | 0, 8, _ => rfl
    | 0, 9, _ => rfl
    | 0, 10, _ => rfl
    | 0, 11, h => exact absurd ⟨rfl, rfl⟩ h
    | 0, 12, _ => rfl
    | 0, 13, _ => rfl
    | 0, 14, _ => rfl
    | 0, 15, _ => rfl
    | 0, 16, _ => rfl
    | 0, 17, _ => rfl
    | 0, 18, _ => rfl
    | 0, 19, _ => rfl
    | 0, 20, _ => rfl
    | 0, 21, _ => rfl
    | 0, 22, _ => rfl
    | 0, 23, _ => rfl
    | 0, 24, _ => rfl
    | 0, 25, _ => rfl
    | 0, 26, _ => rfl
    | 0, 27, _ => rfl
    | 0, _ + 28, _ => rfl
    | _ + 1, _, _ => rfl
theorem rU_12 (Γ : mG) (x : RS) (j : Nat) (v : Int32) : up2 (rA Γ x) 12 0 (.inl (Γ.2.1 0, 640, .inl (upd (x.2.1 12) j v))) = rA Γ (sA x 12 j v) := by
  funext a b
  by_cases h : a = 12 ∧ b = 0
  · obtain ⟨rfl, rfl⟩ := h
    simp [up2, rA, sA, va_up]
  · simp only [up2, if_neg h]
    match b, a, h with
    | 0, 0, _ => rfl
    | 0, 1, _ => rfl
    | 0, 2, _ => rfl
    | 0, 3, _ => rfl
    | 0, 4, _ => rfl
    | 0, 5, _ => rfl
    | 0, 6, _ => rfl
    | 0, 7, _ => rfl
    | 0, 8, _ => rfl
    | 0, 9, _ => rfl
    | 0, 10, _ => rfl
    | 0, 11, _ => rfl
    | 0, 12, h => exact absurd ⟨rfl, rfl⟩ h
    | 0, 13, _ => rfl
    | 0, 14, _ => rfl
    | 0, 15, _ => rfl
    | 0, 16, _ => rfl
    | 0, 17, _ => rfl
    | 0, 18, _ => rfl
    | 0, 19, _ => rfl
    | 0, 20, _ => rfl
    | 0, 21, _ => rfl
    | 0, 22, _ => rfl
    | 0, 23, _ => rfl
    | 0, 24, _ => rfl
    | 0, 25, _ => rfl
    | 0, 26, _ => rfl
    | 0, 27, _ => rfl
    | 0, _ + 28, _ => rfl
    | _ + 1, _, _ => rfl
theorem rU_14 (Γ : mG) (x : RS) (j : Nat) (v : Int32) : up2 (rA Γ x) 14 0 (.inl (Γ.2.1 0, 16, .inl (upd (x.2.1 14) j v))) = rA Γ (sA x 14 j v) := by
  funext a b
  by_cases h : a = 14 ∧ b = 0
  · obtain ⟨rfl, rfl⟩ := h
    simp [up2, rA, sA, va_up]
  · simp only [up2, if_neg h]
    match b, a, h with
    | 0, 0, _ => rfl
    | 0, 1, _ => rfl
    | 0, 2, _ => rfl
    | 0, 3, _ => rfl
    | 0, 4, _ => rfl
    | 0, 5, _ => rfl
    | 0, 6, _ => rfl
    | 0, 7, _ => rfl
    | 0, 8, _ => rfl
    | 0, 9, _ => rfl
    | 0, 10, _ => rfl
    | 0, 11, _ => rfl
    | 0, 12, _ => rfl
    | 0, 13, _ => rfl
    | 0, 14, h => exact absurd ⟨rfl, rfl⟩ h
    | 0, 15, _ => rfl
    | 0, 16, _ => rfl
    | 0, 17, _ => rfl
    | 0, 18, _ => rfl
    | 0, 19, _ => rfl
    | 0, 20, _ => rfl
    | 0, 21, _ => rfl
    | 0, 22, _ => rfl
    | 0, 23, _ => rfl
    | 0, 24, _ => rfl
    | 0, 25, _ => rfl
    | 0, 26, _ => rfl
    | 0, 27, _ => rfl
    | 0, _ + 28, _ => rfl
    | _ + 1, _, _ => rfl
theorem rU_17 (Γ : mG) (x : RS) (j : Nat) (v : Int32) : up2 (rA Γ x) 17 0 (.inl (Γ.2.1 0, 8, .inl (upd (x.2.1 17) j v))) = rA Γ (sA x 17 j v) := by
  funext a b
  by_cases h : a = 17 ∧ b = 0
  · obtain ⟨rfl, rfl⟩ := h
    simp [up2, rA, sA, va_up]
  · simp only [up2, if_neg h]
    match b, a, h with
    | 0, 0, _ => rfl
    | 0, 1, _ => rfl
    | 0, 2, _ => rfl
    | 0, 3, _ => rfl
    | 0, 4, _ => rfl
    | 0, 5, _ => rfl
    | 0, 6, _ => rfl
    | 0, 7, _ => rfl
    | 0, 8, _ => rfl
    | 0, 9, _ => rfl
    | 0, 10, _ => rfl
    | 0, 11, _ => rfl
    | 0, 12, _ => rfl
    | 0, 13, _ => rfl
    | 0, 14, _ => rfl
    | 0, 15, _ => rfl
    | 0, 16, _ => rfl
    | 0, 17, h => exact absurd ⟨rfl, rfl⟩ h
    | 0, 18, _ => rfl
    | 0, 19, _ => rfl
    | 0, 20, _ => rfl
    | 0, 21, _ => rfl
    | 0, 22, _ => rfl
    | 0, 23, _ => rfl
    | 0, 24, _ => rfl
    | 0, 25, _ => rfl
    | 0, 26, _ => rfl
    | 0, 27, _ => rfl
    | 0, _ + 28, _ => rfl
    | _ + 1, _, _ => rfl
theorem rU_18 (Γ : mG) (x : RS) (j : Nat) (v : Int64) : up2 (rA Γ x) 18 0 (.inl (Γ.2.1 1, 128, .inr (.inl (vp_updL (x.2.2 18) j v)))) = rA Γ (sJ x 18 j v) := by
  funext a b
  by_cases h : a = 18 ∧ b = 0
  · obtain ⟨rfl, rfl⟩ := h
    simp [up2, rA, sJ, va_up]
  · simp only [up2, if_neg h]
    match b, a, h with
    | 0, 0, _ => rfl
    | 0, 1, _ => rfl
    | 0, 2, _ => rfl
    | 0, 3, _ => rfl
    | 0, 4, _ => rfl
    | 0, 5, _ => rfl
    | 0, 6, _ => rfl
    | 0, 7, _ => rfl
    | 0, 8, _ => rfl
    | 0, 9, _ => rfl
    | 0, 10, _ => rfl
    | 0, 11, _ => rfl
    | 0, 12, _ => rfl
    | 0, 13, _ => rfl
    | 0, 14, _ => rfl
    | 0, 15, _ => rfl
    | 0, 16, _ => rfl
    | 0, 17, _ => rfl
    | 0, 18, h => exact absurd ⟨rfl, rfl⟩ h
    | 0, 19, _ => rfl
    | 0, 20, _ => rfl
    | 0, 21, _ => rfl
    | 0, 22, _ => rfl
    | 0, 23, _ => rfl
    | 0, 24, _ => rfl
    | 0, 25, _ => rfl
    | 0, 26, _ => rfl
    | 0, 27, _ => rfl
    | 0, _ + 28, _ => rfl
    | _ + 1, _, _ => rfl
theorem rU_19 (Γ : mG) (x : RS) (j : Nat) (v : Int32) : up2 (rA Γ x) 19 0 (.inl (Γ.2.1 0, 8, .inl (upd (x.2.1 19) j v))) = rA Γ (sA x 19 j v) := by
  funext a b
  by_cases h : a = 19 ∧ b = 0
  · obtain ⟨rfl, rfl⟩ := h
    simp [up2, rA, sA, va_up]
  · simp only [up2, if_neg h]
    match b, a, h with
    | 0, 0, _ => rfl
    | 0, 1, _ => rfl
    | 0, 2, _ => rfl
    | 0, 3, _ => rfl
    | 0, 4, _ => rfl
    | 0, 5, _ => rfl
    | 0, 6, _ => rfl
    | 0, 7, _ => rfl
    | 0, 8, _ => rfl
    | 0, 9, _ => rfl
    | 0, 10, _ => rfl
    | 0, 11, _ => rfl
    | 0, 12, _ => rfl
    | 0, 13, _ => rfl
    | 0, 14, _ => rfl
    | 0, 15, _ => rfl
    | 0, 16, _ => rfl
    | 0, 17, _ => rfl
    | 0, 18, _ => rfl
    | 0, 19, h => exact absurd ⟨rfl, rfl⟩ h
    | 0, 20, _ => rfl
    | 0, 21, _ => rfl
    | 0, 22, _ => rfl
    | 0, 23, _ => rfl
    | 0, 24, _ => rfl
    | 0, 25, _ => rfl
    | 0, 26, _ => rfl
    | 0, 27, _ => rfl
    | 0, _ + 28, _ => rfl
    | _ + 1, _, _ => rfl
theorem rU_20 (Γ : mG) (x : RS) (j : Nat) (v : Int32) : up2 (rA Γ x) 20 0 (.inl (Γ.2.1 0, 8, .inl (upd (x.2.1 20) j v))) = rA Γ (sA x 20 j v) := by
  funext a b
  by_cases h : a = 20 ∧ b = 0
  · obtain ⟨rfl, rfl⟩ := h
    simp [up2, rA, sA, va_up]
  · simp only [up2, if_neg h]
    match b, a, h with
    | 0, 0, _ => rfl
    | 0, 1, _ => rfl
    | 0, 2, _ => rfl
    | 0, 3, _ => rfl
    | 0, 4, _ => rfl
    | 0, 5, _ => rfl
    | 0, 6, _ => rfl
    | 0, 7, _ => rfl
    | 0, 8, _ => rfl
    | 0, 9, _ => rfl
    | 0, 10, _ => rfl
    | 0, 11, _ => rfl
    | 0, 12, _ => rfl
    | 0, 13, _ => rfl
    | 0, 14, _ => rfl
    | 0, 15, _ => rfl
    | 0, 16, _ => rfl
    | 0, 17, _ => rfl
    | 0, 18, _ => rfl
    | 0, 19, _ => rfl
    | 0, 20, h => exact absurd ⟨rfl, rfl⟩ h
    | 0, 21, _ => rfl
    | 0, 22, _ => rfl
    | 0, 23, _ => rfl
    | 0, 24, _ => rfl
    | 0, 25, _ => rfl
    | 0, 26, _ => rfl
    | 0, 27, _ => rfl
    | 0, _ + 28, _ => rfl
    | _ + 1, _, _ => rfl
theorem rU_21 (Γ : mG) (x : RS) (j : Nat) (v : Int32) : up2 (rA Γ x) 21 0 (.inl (Γ.2.1 0, 8, .inl (upd (x.2.1 21) j v))) = rA Γ (sA x 21 j v) := by
  funext a b
  by_cases h : a = 21 ∧ b = 0
  · obtain ⟨rfl, rfl⟩ := h
    simp [up2, rA, sA, va_up]
  · simp only [up2, if_neg h]
    match b, a, h with
    | 0, 0, _ => rfl
    | 0, 1, _ => rfl
    | 0, 2, _ => rfl
    | 0, 3, _ => rfl
    | 0, 4, _ => rfl
    | 0, 5, _ => rfl
    | 0, 6, _ => rfl
    | 0, 7, _ => rfl
    | 0, 8, _ => rfl
    | 0, 9, _ => rfl
    | 0, 10, _ => rfl
    | 0, 11, _ => rfl
    | 0, 12, _ => rfl
    | 0, 13, _ => rfl
    | 0, 14, _ => rfl
    | 0, 15, _ => rfl
    | 0, 16, _ => rfl
    | 0, 17, _ => rfl
    | 0, 18, _ => rfl
    | 0, 19, _ => rfl
    | 0, 20, _ => rfl
    | 0, 21, h => exact absurd ⟨rfl, rfl⟩ h
    | 0, 22, _ => rfl
    | 0, 23, _ => rfl
    | 0, 24, _ => rfl
    | 0, 25, _ => rfl
    | 0, 26, _ => rfl
    | 0, 27, _ => rfl
    | 0, _ + 28, _ => rfl
    | _ + 1, _, _ => rfl
theorem rU_24 (Γ : mG) (x : RS) (j : Nat) (v : Int32) : up2 (rA Γ x) 24 0 (.inl (Γ.2.1 0, 20, .inl (upd (x.2.1 24) j v))) = rA Γ (sA x 24 j v) := by
  funext a b
  by_cases h : a = 24 ∧ b = 0
  · obtain ⟨rfl, rfl⟩ := h
    simp [up2, rA, sA, va_up]
  · simp only [up2, if_neg h]
    match b, a, h with
    | 0, 0, _ => rfl
    | 0, 1, _ => rfl
    | 0, 2, _ => rfl
    | 0, 3, _ => rfl
    | 0, 4, _ => rfl
    | 0, 5, _ => rfl
    | 0, 6, _ => rfl
    | 0, 7, _ => rfl
    | 0, 8, _ => rfl
    | 0, 9, _ => rfl
    | 0, 10, _ => rfl
    | 0, 11, _ => rfl
    | 0, 12, _ => rfl
    | 0, 13, _ => rfl
    | 0, 14, _ => rfl
    | 0, 15, _ => rfl
    | 0, 16, _ => rfl
    | 0, 17, _ => rfl
    | 0, 18, _ => rfl
    | 0, 19, _ => rfl
    | 0, 20, _ => rfl
    | 0, 21, _ => rfl
    | 0, 22, _ => rfl
    | 0, 23, _ => rfl
    | 0, 24, h => exact absurd ⟨rfl, rfl⟩ h
    | 0, 25, _ => rfl
    | 0, 26, _ => rfl
    | 0, 27, _ => rfl
    | 0, _ + 28, _ => rfl
    | _ + 1, _, _ => rfl
theorem rU_25 (Γ : mG) (x : RS) (j : Nat) (v : Int32) : up2 (rA Γ x) 25 0 (.inl (Γ.2.1 0, 20, .inl (upd (x.2.1 25) j v))) = rA Γ (sA x 25 j v) := by
  funext a b
  by_cases h : a = 25 ∧ b = 0
  · obtain ⟨rfl, rfl⟩ := h
    simp [up2, rA, sA, va_up]
  · simp only [up2, if_neg h]
    match b, a, h with
    | 0, 0, _ => rfl
    | 0, 1, _ => rfl
    | 0, 2, _ => rfl
    | 0, 3, _ => rfl
    | 0, 4, _ => rfl
    | 0, 5, _ => rfl
    | 0, 6, _ => rfl
    | 0, 7, _ => rfl
    | 0, 8, _ => rfl
    | 0, 9, _ => rfl
    | 0, 10, _ => rfl
    | 0, 11, _ => rfl
    | 0, 12, _ => rfl
    | 0, 13, _ => rfl
    | 0, 14, _ => rfl
    | 0, 15, _ => rfl
    | 0, 16, _ => rfl
    | 0, 17, _ => rfl
    | 0, 18, _ => rfl
    | 0, 19, _ => rfl
    | 0, 20, _ => rfl
    | 0, 21, _ => rfl
    | 0, 22, _ => rfl
    | 0, 23, _ => rfl
    | 0, 24, _ => rfl
    | 0, 25, h => exact absurd ⟨rfl, rfl⟩ h
    | 0, 26, _ => rfl
    | 0, 27, _ => rfl
    | 0, _ + 28, _ => rfl
    | _ + 1, _, _ => rfl
theorem rU_26 (Γ : mG) (x : RS) (j : Nat) (v : Int32) : up2 (rA Γ x) 26 0 (.inl (Γ.2.1 0, 20, .inl (upd (x.2.1 26) j v))) = rA Γ (sA x 26 j v) := by
  funext a b
  by_cases h : a = 26 ∧ b = 0
  · obtain ⟨rfl, rfl⟩ := h
    simp [up2, rA, sA, va_up]
  · simp only [up2, if_neg h]
    match b, a, h with
    | 0, 0, _ => rfl
    | 0, 1, _ => rfl
    | 0, 2, _ => rfl
    | 0, 3, _ => rfl
    | 0, 4, _ => rfl
    | 0, 5, _ => rfl
    | 0, 6, _ => rfl
    | 0, 7, _ => rfl
    | 0, 8, _ => rfl
    | 0, 9, _ => rfl
    | 0, 10, _ => rfl
    | 0, 11, _ => rfl
    | 0, 12, _ => rfl
    | 0, 13, _ => rfl
    | 0, 14, _ => rfl
    | 0, 15, _ => rfl
    | 0, 16, _ => rfl
    | 0, 17, _ => rfl
    | 0, 18, _ => rfl
    | 0, 19, _ => rfl
    | 0, 20, _ => rfl
    | 0, 21, _ => rfl
    | 0, 22, _ => rfl
    | 0, 23, _ => rfl
    | 0, 24, _ => rfl
    | 0, 25, _ => rfl
    | 0, 26, h => exact absurd ⟨rfl, rfl⟩ h
    | 0, 27, _ => rfl
    | 0, _ + 28, _ => rfl
    | _ + 1, _, _ => rfl
theorem rU_27 (Γ : mG) (x : RS) (j : Nat) (v : Int64) : up2 (rA Γ x) 27 0 (.inl (Γ.2.1 1, 600, .inr (.inl (vp_updL (x.2.2 27) j v)))) = rA Γ (sJ x 27 j v) := by
  funext a b
  by_cases h : a = 27 ∧ b = 0
  · obtain ⟨rfl, rfl⟩ := h
    simp [up2, rA, sJ, va_up]
  · simp only [up2, if_neg h]
    match b, a, h with
    | 0, 0, _ => rfl
    | 0, 1, _ => rfl
    | 0, 2, _ => rfl
    | 0, 3, _ => rfl
    | 0, 4, _ => rfl
    | 0, 5, _ => rfl
    | 0, 6, _ => rfl
    | 0, 7, _ => rfl
    | 0, 8, _ => rfl
    | 0, 9, _ => rfl
    | 0, 10, _ => rfl
    | 0, 11, _ => rfl
    | 0, 12, _ => rfl
    | 0, 13, _ => rfl
    | 0, 14, _ => rfl
    | 0, 15, _ => rfl
    | 0, 16, _ => rfl
    | 0, 17, _ => rfl
    | 0, 18, _ => rfl
    | 0, 19, _ => rfl
    | 0, 20, _ => rfl
    | 0, 21, _ => rfl
    | 0, 22, _ => rfl
    | 0, 23, _ => rfl
    | 0, 24, _ => rfl
    | 0, 25, _ => rfl
    | 0, 26, _ => rfl
    | 0, 27, h => exact absurd ⟨rfl, rfl⟩ h
    | 0, _ + 28, _ => rfl
    | _ + 1, _, _ => rfl
section RR
variable {p : Program} {l : Launch} {e : Env} {R : Room} {s : State} {m : MethodId} {args : Array Value} {below : List Frame} {meth : Method} {c : Code} {H : Heap} {locs : List Loc} {cells slots : Nat} {Q : State → Prop}
variable {cc : ByteArray} {pc nL : Nat} {ls : Array Slot} {rest : List Value} {Γ : mG} {A : Nat → Prop} {L : mI → Nat} {x : RS}
theorem r_get0 (X : mX Γ p m c cc nL s args RX10 A) (hw : mW Γ.1 vwCl A L (rM Γ L x) H) (hdg : decode cc pc = .ok (.getfield 75, 3)) (kk : W p l e R s m args below meth c H locs cells slots Q (F0 m (pc + 3) ls (.int (x.1 0) :: rest))) : W p l e R s m args below meth c H locs cells slots Q (F0 m pc ls (.ref (L (.inl 0)) :: rest)) := m_get X hw (i := .inl 0) (ci := 8) rfl rfl gX10 0 (by decide) fl_X10_75 rfl rfl hdg kk
theorem r_put0 {v : Int32} (X : mX Γ p m c cc nL s args RX10 A) (hw : mW Γ.1 vwCl A L (rM Γ L x) H) (hS : va_S A s.heap H locs) (hdg : decode cc pc = .ok (.putfield 75, 3)) (kk : ∀ (H1 : Heap) (locs1 : List Loc), mW Γ.1 vwCl A L (rM Γ L (sS x 0 v)) H1 → va_S A s.heap H1 locs1 → W p l e R s m args below meth c H1 locs1 cells slots Q (F0 m (pc + 3) ls rest)) : W p l e R s m args below meth c H locs cells slots Q (F0 m pc ls (.int v :: .ref (L (.inl 0)) :: rest)) := m_put X hw hS (i := .inl 0) (ci := 8) (ty := .int) rfl rfl gX10 tyX10 tyX10_ok nmX10 0 (by decide) fl_X10_75 rfl rfl rfl rfl rfl (show 0 < 35 by decide) hdg kk
theorem r_get1 (X : mX Γ p m c cc nL s args RX10 A) (hw : mW Γ.1 vwCl A L (rM Γ L x) H) (hdg : decode cc pc = .ok (.getfield 7, 3)) (kk : W p l e R s m args below meth c H locs cells slots Q (F0 m (pc + 3) ls (.ref (L (.inr (0, 1, 0))) :: rest))) : W p l e R s m args below meth c H locs cells slots Q (F0 m pc ls (.ref (L (.inl 0)) :: rest)) := m_get X hw (i := .inl 0) (ci := 8) rfl rfl gX10 1 (by decide) fl_X10_7 rfl rfl hdg kk
theorem r_ald1 {i : Int32} (X : mX Γ p m c cc nL s args RX10 A) (hw : mW Γ.1 vwCl A L (rM Γ L x) H) (hin : vp_in i 8) (hdg : decode cc pc = .ok (.iaload, 1)) (kk : W p l e R s m args below meth c H locs cells slots Q (F0 m (pc + 1) ls (.int (x.2.1 1 i.toNatClampNeg) :: rest))) : W p l e R s m args below meth c H locs cells slots Q (F0 m pc ls (.int i :: .ref (L (.inr (0, 1, 0))) :: rest)) := m_iald X hw (i := .inr (0, 1, 0)) rfl hin hdg kk
theorem r_ast1 {i v : Int32} (X : mX Γ p m c cc nL s args RX10 A) (hw : mW Γ.1 vwCl A L (rM Γ L x) H) (hS : va_S A s.heap H locs) (hin : vp_in i 8) (hdg : decode cc pc = .ok (.iastore, 1)) (kk : ∀ (H1 : Heap) (locs1 : List Loc), mW Γ.1 vwCl A L (rM Γ L (sA x 1 i.toNatClampNeg v)) H1 → va_S A s.heap H1 locs1 → W p l e R s m args below meth c H1 locs1 cells slots Q (F0 m (pc + 1) ls rest)) : W p l e R s m args below meth c H locs cells slots Q (F0 m pc ls (.int v :: .int i :: .ref (L (.inr (0, 1, 0))) :: rest)) := m_iast X hw hS (i := .inr (0, 1, 0)) rfl hin hdg (fun H1 locs1 h1 h2 => kk H1 locs1 (by have e := rU_1 Γ x i.toNatClampNeg v; show mW Γ.1 vwCl A L ([.inr (8, rF L x)], [rA Γ (sA x 1 i.toNatClampNeg v)]) H1; rw [← e]; exact h1) h2)
theorem r_get2 (X : mX Γ p m c cc nL s args RX10 A) (hw : mW Γ.1 vwCl A L (rM Γ L x) H) (hdg : decode cc pc = .ok (.getfield 13, 3)) (kk : W p l e R s m args below meth c H locs cells slots Q (F0 m (pc + 3) ls (.ref (L (.inr (0, 2, 0))) :: rest))) : W p l e R s m args below meth c H locs cells slots Q (F0 m pc ls (.ref (L (.inl 0)) :: rest)) := m_get X hw (i := .inl 0) (ci := 8) rfl rfl gX10 2 (by decide) fl_X10_13 rfl rfl hdg kk
theorem r_ald2 {i : Int32} (X : mX Γ p m c cc nL s args RX10 A) (hw : mW Γ.1 vwCl A L (rM Γ L x) H) (hin : vp_in i 8) (hdg : decode cc pc = .ok (.iaload, 1)) (kk : W p l e R s m args below meth c H locs cells slots Q (F0 m (pc + 1) ls (.int (x.2.1 2 i.toNatClampNeg) :: rest))) : W p l e R s m args below meth c H locs cells slots Q (F0 m pc ls (.int i :: .ref (L (.inr (0, 2, 0))) :: rest)) := m_iald X hw (i := .inr (0, 2, 0)) rfl hin hdg kk
theorem r_ast2 {i v : Int32} (X : mX Γ p m c cc nL s args RX10 A) (hw : mW Γ.1 vwCl A L (rM Γ L x) H) (hS : va_S A s.heap H locs) (hin : vp_in i 8) (hdg : decode cc pc = .ok (.iastore, 1)) (kk : ∀ (H1 : Heap) (locs1 : List Loc), mW Γ.1 vwCl A L (rM Γ L (sA x 2 i.toNatClampNeg v)) H1 → va_S A s.heap H1 locs1 → W p l e R s m args below meth c H1 locs1 cells slots Q (F0 m (pc + 1) ls rest)) : W p l e R s m args below meth c H locs cells slots Q (F0 m pc ls (.int v :: .int i :: .ref (L (.inr (0, 2, 0))) :: rest)) := m_iast X hw hS (i := .inr (0, 2, 0)) rfl hin hdg (fun H1 locs1 h1 h2 => kk H1 locs1 (by have e := rU_2 Γ x i.toNatClampNeg v; show mW Γ.1 vwCl A L ([.inr (8, rF L x)], [rA Γ (sA x 2 i.toNatClampNeg v)]) H1; rw [← e]; exact h1) h2)
theorem r_get3 (X : mX Γ p m c cc nL s args RX10 A) (hw : mW Γ.1 vwCl A L (rM Γ L x) H) (hdg : decode cc pc = .ok (.getfield 16, 3)) (kk : W p l e R s m args below meth c H locs cells slots Q (F0 m (pc + 3) ls (.ref (L (.inr (0, 3, 0))) :: rest))) : W p l e R s m args below meth c H locs cells slots Q (F0 m pc ls (.ref (L (.inl 0)) :: rest)) := m_get X hw (i := .inl 0) (ci := 8) rfl rfl gX10 3 (by decide) fl_X10_16 rfl rfl hdg kk
theorem r_ald3 {i : Int32} (X : mX Γ p m c cc nL s args RX10 A) (hw : mW Γ.1 vwCl A L (rM Γ L x) H) (hin : vp_in i 320) (hdg : decode cc pc = .ok (.iaload, 1)) (kk : W p l e R s m args below meth c H locs cells slots Q (F0 m (pc + 1) ls (.int (x.2.1 3 i.toNatClampNeg) :: rest))) : W p l e R s m args below meth c H locs cells slots Q (F0 m pc ls (.int i :: .ref (L (.inr (0, 3, 0))) :: rest)) := m_iald X hw (i := .inr (0, 3, 0)) rfl hin hdg kk
theorem r_ast3 {i v : Int32} (X : mX Γ p m c cc nL s args RX10 A) (hw : mW Γ.1 vwCl A L (rM Γ L x) H) (hS : va_S A s.heap H locs) (hin : vp_in i 320) (hdg : decode cc pc = .ok (.iastore, 1)) (kk : ∀ (H1 : Heap) (locs1 : List Loc), mW Γ.1 vwCl A L (rM Γ L (sA x 3 i.toNatClampNeg v)) H1 → va_S A s.heap H1 locs1 → W p l e R s m args below meth c H1 locs1 cells slots Q (F0 m (pc + 1) ls rest)) : W p l e R s m args below meth c H locs cells slots Q (F0 m pc ls (.int v :: .int i :: .ref (L (.inr (0, 3, 0))) :: rest)) := m_iast X hw hS (i := .inr (0, 3, 0)) rfl hin hdg (fun H1 locs1 h1 h2 => kk H1 locs1 (by have e := rU_3 Γ x i.toNatClampNeg v; show mW Γ.1 vwCl A L ([.inr (8, rF L x)], [rA Γ (sA x 3 i.toNatClampNeg v)]) H1; rw [← e]; exact h1) h2)
theorem r_get4 (X : mX Γ p m c cc nL s args RX10 A) (hw : mW Γ.1 vwCl A L (rM Γ L x) H) (hdg : decode cc pc = .ok (.getfield 19, 3)) (kk : W p l e R s m args below meth c H locs cells slots Q (F0 m (pc + 3) ls (.ref (L (.inr (0, 4, 0))) :: rest))) : W p l e R s m args below meth c H locs cells slots Q (F0 m pc ls (.ref (L (.inl 0)) :: rest)) := m_get X hw (i := .inl 0) (ci := 8) rfl rfl gX10 4 (by decide) fl_X10_19 rfl rfl hdg kk
theorem r_ald4 {i : Int32} (X : mX Γ p m c cc nL s args RX10 A) (hw : mW Γ.1 vwCl A L (rM Γ L x) H) (hin : vp_in i 320) (hdg : decode cc pc = .ok (.laload, 1)) (kk : W p l e R s m args below meth c H locs cells slots Q (F0 m (pc + 1) ls (.long (x.2.2 4 i.toNatClampNeg) :: rest))) : W p l e R s m args below meth c H locs cells slots Q (F0 m pc ls (.int i :: .ref (L (.inr (0, 4, 0))) :: rest)) := m_lald X hw (i := .inr (0, 4, 0)) rfl hin hdg kk
theorem r_ast4 {i : Int32} {v : Int64} (X : mX Γ p m c cc nL s args RX10 A) (hw : mW Γ.1 vwCl A L (rM Γ L x) H) (hS : va_S A s.heap H locs) (hin : vp_in i 320) (hdg : decode cc pc = .ok (.lastore, 1)) (kk : ∀ (H1 : Heap) (locs1 : List Loc), mW Γ.1 vwCl A L (rM Γ L (sJ x 4 i.toNatClampNeg v)) H1 → va_S A s.heap H1 locs1 → W p l e R s m args below meth c H1 locs1 cells slots Q (F0 m (pc + 1) ls rest)) : W p l e R s m args below meth c H locs cells slots Q (F0 m pc ls (.long v :: .int i :: .ref (L (.inr (0, 4, 0))) :: rest)) := m_last X hw hS (i := .inr (0, 4, 0)) rfl hin hdg (fun H1 locs1 h1 h2 => kk H1 locs1 (by have e := rU_4 Γ x i.toNatClampNeg v; show mW Γ.1 vwCl A L ([.inr (8, rF L x)], [rA Γ (sJ x 4 i.toNatClampNeg v)]) H1; rw [← e]; exact h1) h2)
theorem r_get5 (X : mX Γ p m c cc nL s args RX10 A) (hw : mW Γ.1 vwCl A L (rM Γ L x) H) (hdg : decode cc pc = .ok (.getfield 23, 3)) (kk : W p l e R s m args below meth c H locs cells slots Q (F0 m (pc + 3) ls (.ref (L (.inr (0, 5, 0))) :: rest))) : W p l e R s m args below meth c H locs cells slots Q (F0 m pc ls (.ref (L (.inl 0)) :: rest)) := m_get X hw (i := .inl 0) (ci := 8) rfl rfl gX10 5 (by decide) fl_X10_23 rfl rfl hdg kk
theorem r_ald5 {i : Int32} (X : mX Γ p m c cc nL s args RX10 A) (hw : mW Γ.1 vwCl A L (rM Γ L x) H) (hin : vp_in i 8) (hdg : decode cc pc = .ok (.iaload, 1)) (kk : W p l e R s m args below meth c H locs cells slots Q (F0 m (pc + 1) ls (.int (x.2.1 5 i.toNatClampNeg) :: rest))) : W p l e R s m args below meth c H locs cells slots Q (F0 m pc ls (.int i :: .ref (L (.inr (0, 5, 0))) :: rest)) := m_iald X hw (i := .inr (0, 5, 0)) rfl hin hdg kk
theorem r_ast5 {i v : Int32} (X : mX Γ p m c cc nL s args RX10 A) (hw : mW Γ.1 vwCl A L (rM Γ L x) H) (hS : va_S A s.heap H locs) (hin : vp_in i 8) (hdg : decode cc pc = .ok (.iastore, 1)) (kk : ∀ (H1 : Heap) (locs1 : List Loc), mW Γ.1 vwCl A L (rM Γ L (sA x 5 i.toNatClampNeg v)) H1 → va_S A s.heap H1 locs1 → W p l e R s m args below meth c H1 locs1 cells slots Q (F0 m (pc + 1) ls rest)) : W p l e R s m args below meth c H locs cells slots Q (F0 m pc ls (.int v :: .int i :: .ref (L (.inr (0, 5, 0))) :: rest)) := m_iast X hw hS (i := .inr (0, 5, 0)) rfl hin hdg (fun H1 locs1 h1 h2 => kk H1 locs1 (by have e := rU_5 Γ x i.toNatClampNeg v; show mW Γ.1 vwCl A L ([.inr (8, rF L x)], [rA Γ (sA x 5 i.toNatClampNeg v)]) H1; rw [← e]; exact h1) h2)
theorem r_get6 (X : mX Γ p m c cc nL s args RX10 A) (hw : mW Γ.1 vwCl A L (rM Γ L x) H) (hdg : decode cc pc = .ok (.getfield 26, 3)) (kk : W p l e R s m args below meth c H locs cells slots Q (F0 m (pc + 3) ls (.ref (L (.inr (0, 6, 0))) :: rest))) : W p l e R s m args below meth c H locs cells slots Q (F0 m pc ls (.ref (L (.inl 0)) :: rest)) := m_get X hw (i := .inl 0) (ci := 8) rfl rfl gX10 6 (by decide) fl_X10_26 rfl rfl hdg kk
theorem r_ald6 {i : Int32} (X : mX Γ p m c cc nL s args RX10 A) (hw : mW Γ.1 vwCl A L (rM Γ L x) H) (hin : vp_in i 192) (hdg : decode cc pc = .ok (.iaload, 1)) (kk : W p l e R s m args below meth c H locs cells slots Q (F0 m (pc + 1) ls (.int (x.2.1 6 i.toNatClampNeg) :: rest))) : W p l e R s m args below meth c H locs cells slots Q (F0 m pc ls (.int i :: .ref (L (.inr (0, 6, 0))) :: rest)) := m_iald X hw (i := .inr (0, 6, 0)) rfl hin hdg kk
theorem r_ast6 {i v : Int32} (X : mX Γ p m c cc nL s args RX10 A) (hw : mW Γ.1 vwCl A L (rM Γ L x) H) (hS : va_S A s.heap H locs) (hin : vp_in i 192) (hdg : decode cc pc = .ok (.iastore, 1)) (kk : ∀ (H1 : Heap) (locs1 : List Loc), mW Γ.1 vwCl A L (rM Γ L (sA x 6 i.toNatClampNeg v)) H1 → va_S A s.heap H1 locs1 → W p l e R s m args below meth c H1 locs1 cells slots Q (F0 m (pc + 1) ls rest)) : W p l e R s m args below meth c H locs cells slots Q (F0 m pc ls (.int v :: .int i :: .ref (L (.inr (0, 6, 0))) :: rest)) := m_iast X hw hS (i := .inr (0, 6, 0)) rfl hin hdg (fun H1 locs1 h1 h2 => kk H1 locs1 (by have e := rU_6 Γ x i.toNatClampNeg v; show mW Γ.1 vwCl A L ([.inr (8, rF L x)], [rA Γ (sA x 6 i.toNatClampNeg v)]) H1; rw [← e]; exact h1) h2)
theorem r_get7 (X : mX Γ p m c cc nL s args RX10 A) (hw : mW Γ.1 vwCl A L (rM Γ L x) H) (hdg : decode cc pc = .ok (.getfield 29, 3)) (kk : W p l e R s m args below meth c H locs cells slots Q (F0 m (pc + 3) ls (.ref (L (.inr (0, 7, 0))) :: rest))) : W p l e R s m args below meth c H locs cells slots Q (F0 m pc ls (.ref (L (.inl 0)) :: rest)) := m_get X hw (i := .inl 0) (ci := 8) rfl rfl gX10 7 (by decide) fl_X10_29 rfl rfl hdg kk
theorem r_ald7 {i : Int32} (X : mX Γ p m c cc nL s args RX10 A) (hw : mW Γ.1 vwCl A L (rM Γ L x) H) (hin : vp_in i 320) (hdg : decode cc pc = .ok (.iaload, 1)) (kk : W p l e R s m args below meth c H locs cells slots Q (F0 m (pc + 1) ls (.int (x.2.1 7 i.toNatClampNeg) :: rest))) : W p l e R s m args below meth c H locs cells slots Q (F0 m pc ls (.int i :: .ref (L (.inr (0, 7, 0))) :: rest)) := m_iald X hw (i := .inr (0, 7, 0)) rfl hin hdg kk
theorem r_ast7 {i v : Int32} (X : mX Γ p m c cc nL s args RX10 A) (hw : mW Γ.1 vwCl A L (rM Γ L x) H) (hS : va_S A s.heap H locs) (hin : vp_in i 320) (hdg : decode cc pc = .ok (.iastore, 1)) (kk : ∀ (H1 : Heap) (locs1 : List Loc), mW Γ.1 vwCl A L (rM Γ L (sA x 7 i.toNatClampNeg v)) H1 → va_S A s.heap H1 locs1 → W p l e R s m args below meth c H1 locs1 cells slots Q (F0 m (pc + 1) ls rest)) : W p l e R s m args below meth c H locs cells slots Q (F0 m pc ls (.int v :: .int i :: .ref (L (.inr (0, 7, 0))) :: rest)) := m_iast X hw hS (i := .inr (0, 7, 0)) rfl hin hdg (fun H1 locs1 h1 h2 => kk H1 locs1 (by have e := rU_7 Γ x i.toNatClampNeg v; show mW Γ.1 vwCl A L ([.inr (8, rF L x)], [rA Γ (sA x 7 i.toNatClampNeg v)]) H1; rw [← e]; exact h1) h2)
theorem r_get8 (X : mX Γ p m c cc nL s args RX10 A) (hw : mW Γ.1 vwCl A L (rM Γ L x) H) (hdg : decode cc pc = .ok (.getfield 32, 3)) (kk : W p l e R s m args below meth c H locs cells slots Q (F0 m (pc + 3) ls (.ref (L (.inr (0, 8, 0))) :: rest))) : W p l e R s m args below meth c H locs cells slots Q (F0 m pc ls (.ref (L (.inl 0)) :: rest)) := m_get X hw (i := .inl 0) (ci := 8) rfl rfl gX10 8 (by decide) fl_X10_32 rfl rfl hdg kk
theorem r_ald8 {i : Int32} (X : mX Γ p m c cc nL s args RX10 A) (hw : mW Γ.1 vwCl A L (rM Γ L x) H) (hin : vp_in i 5120) (hdg : decode cc pc = .ok (.iaload, 1)) (kk : W p l e R s m args below meth c H locs cells slots Q (F0 m (pc + 1) ls (.int (x.2.1 8 i.toNatClampNeg) :: rest))) : W p l e R s m args below meth c H locs cells slots Q (F0 m pc ls (.int i :: .ref (L (.inr (0, 8, 0))) :: rest)) := m_iald X hw (i := .inr (0, 8, 0)) rfl hin hdg kk
theorem r_ast8 {i v : Int32} (X : mX Γ p m c cc nL s args RX10 A) (hw : mW Γ.1 vwCl A L (rM Γ L x) H) (hS : va_S A s.heap H locs) (hin : vp_in i 5120) (hdg : decode cc pc = .ok (.iastore, 1)) (kk : ∀ (H1 : Heap) (locs1 : List Loc), mW Γ.1 vwCl A L (rM Γ L (sA x 8 i.toNatClampNeg v)) H1 → va_S A s.heap H1 locs1 → W p l e R s m args below meth c H1 locs1 cells slots Q (F0 m (pc + 1) ls rest)) : W p l e R s m args below meth c H locs cells slots Q (F0 m pc ls (.int v :: .int i :: .ref (L (.inr (0, 8, 0))) :: rest)) := m_iast X hw hS (i := .inr (0, 8, 0)) rfl hin hdg (fun H1 locs1 h1 h2 => kk H1 locs1 (by have e := rU_8 Γ x i.toNatClampNeg v; show mW Γ.1 vwCl A L ([.inr (8, rF L x)], [rA Γ (sA x 8 i.toNatClampNeg v)]) H1; rw [← e]; exact h1) h2)
theorem r_get9 (X : mX Γ p m c cc nL s args RX10 A) (hw : mW Γ.1 vwCl A L (rM Γ L x) H) (hdg : decode cc pc = .ok (.getfield 35, 3)) (kk : W p l e R s m args below meth c H locs cells slots Q (F0 m (pc + 3) ls (.ref (L (.inr (0, 9, 0))) :: rest))) : W p l e R s m args below meth c H locs cells slots Q (F0 m pc ls (.ref (L (.inl 0)) :: rest)) := m_get X hw (i := .inl 0) (ci := 8) rfl rfl gX10 9 (by decide) fl_X10_35 rfl rfl hdg kk
theorem r_ald9 {i : Int32} (X : mX Γ p m c cc nL s args RX10 A) (hw : mW Γ.1 vwCl A L (rM Γ L x) H) (hin : vp_in i 8) (hdg : decode cc pc = .ok (.baload, 1)) (kk : W p l e R s m args below meth c H locs cells slots Q (F0 m (pc + 1) ls (.int (x.2.1 9 i.toNatClampNeg) :: rest))) : W p l e R s m args below meth c H locs cells slots Q (F0 m pc ls (.int i :: .ref (L (.inr (0, 9, 0))) :: rest)) := m_zald X hw (i := .inr (0, 9, 0)) rfl hin hdg kk
theorem r_ast9 {i v : Int32} (X : mX Γ p m c cc nL s args RX10 A) (hw : mW Γ.1 vwCl A L (rM Γ L x) H) (hS : va_S A s.heap H locs) (hin : vp_in i 8) (hdg : decode cc pc = .ok (.bastore, 1)) (kk : ∀ (H1 : Heap) (locs1 : List Loc), mW Γ.1 vwCl A L (rM Γ L (sA x 9 i.toNatClampNeg (vp_nar .boolean v))) H1 → va_S A s.heap H1 locs1 → W p l e R s m args below meth c H1 locs1 cells slots Q (F0 m (pc + 1) ls rest)) : W p l e R s m args below meth c H locs cells slots Q (F0 m pc ls (.int v :: .int i :: .ref (L (.inr (0, 9, 0))) :: rest)) := m_zast X hw hS (i := .inr (0, 9, 0)) rfl hin hdg (fun H1 locs1 h1 h2 => kk H1 locs1 (by have e := rU_9 Γ x i.toNatClampNeg (vp_nar .boolean v); show mW Γ.1 vwCl A L ([.inr (8, rF L x)], [rA Γ (sA x 9 i.toNatClampNeg (vp_nar .boolean v))]) H1; rw [← e]; exact h1) h2)
theorem r_get11 (X : mX Γ p m c cc nL s args RX10 A) (hw : mW Γ.1 vwCl A L (rM Γ L x) H) (hdg : decode cc pc = .ok (.getfield 39, 3)) (kk : W p l e R s m args below meth c H locs cells slots Q (F0 m (pc + 3) ls (.ref (L (.inr (0, 11, 0))) :: rest))) : W p l e R s m args below meth c H locs cells slots Q (F0 m pc ls (.ref (L (.inl 0)) :: rest)) := m_get X hw (i := .inl 0) (ci := 8) rfl rfl gX10 11 (by decide) fl_X10_39 rfl rfl hdg kk
theorem r_ald11 {i : Int32} (X : mX Γ p m c cc nL s args RX10 A) (hw : mW Γ.1 vwCl A L (rM Γ L x) H) (hin : vp_in i 40) (hdg : decode cc pc = .ok (.iaload, 1)) (kk : W p l e R s m args below meth c H locs cells slots Q (F0 m (pc + 1) ls (.int (x.2.1 11 i.toNatClampNeg) :: rest))) : W p l e R s m args below meth c H locs cells slots Q (F0 m pc ls (.int i :: .ref (L (.inr (0, 11, 0))) :: rest)) := m_iald X hw (i := .inr (0, 11, 0)) rfl hin hdg kk
theorem r_ast11 {i v : Int32} (X : mX Γ p m c cc nL s args RX10 A) (hw : mW Γ.1 vwCl A L (rM Γ L x) H) (hS : va_S A s.heap H locs) (hin : vp_in i 40) (hdg : decode cc pc = .ok (.iastore, 1)) (kk : ∀ (H1 : Heap) (locs1 : List Loc), mW Γ.1 vwCl A L (rM Γ L (sA x 11 i.toNatClampNeg v)) H1 → va_S A s.heap H1 locs1 → W p l e R s m args below meth c H1 locs1 cells slots Q (F0 m (pc + 1) ls rest)) : W p l e R s m args below meth c H locs cells slots Q (F0 m pc ls (.int v :: .int i :: .ref (L (.inr (0, 11, 0))) :: rest)) := m_iast X hw hS (i := .inr (0, 11, 0)) rfl hin hdg (fun H1 locs1 h1 h2 => kk H1 locs1 (by have e := rU_11 Γ x i.toNatClampNeg v; show mW Γ.1 vwCl A L ([.inr (8, rF L x)], [rA Γ (sA x 11 i.toNatClampNeg v)]) H1; rw [← e]; exact h1) h2)
theorem r_get12 (X : mX Γ p m c cc nL s args RX10 A) (hw : mW Γ.1 vwCl A L (rM Γ L x) H) (hdg : decode cc pc = .ok (.getfield 42, 3)) (kk : W p l e R s m args below meth c H locs cells slots Q (F0 m (pc + 3) ls (.ref (L (.inr (0, 12, 0))) :: rest))) : W p l e R s m args below meth c H locs cells slots Q (F0 m pc ls (.ref (L (.inl 0)) :: rest)) := m_get X hw (i := .inl 0) (ci := 8) rfl rfl gX10 12 (by decide) fl_X10_42 rfl rfl hdg kk
theorem r_ald12 {i : Int32} (X : mX Γ p m c cc nL s args RX10 A) (hw : mW Γ.1 vwCl A L (rM Γ L x) H) (hin : vp_in i 640) (hdg : decode cc pc = .ok (.iaload, 1)) (kk : W p l e R s m args below meth c H locs cells slots Q (F0 m (pc + 1) ls (.int (x.2.1 12 i.toNatClampNeg) :: rest))) : W p l e R s m args below meth c H locs cells slots Q (F0 m pc ls (.int i :: .ref (L (.inr (0, 12, 0))) :: rest)) := m_iald X hw (i := .inr (0, 12, 0)) rfl hin hdg kk
theorem r_ast12 {i v : Int32} (X : mX Γ p m c cc nL s args RX10 A) (hw : mW Γ.1 vwCl A L (rM Γ L x) H) (hS : va_S A s.heap H locs) (hin : vp_in i 640) (hdg : decode cc pc = .ok (.iastore, 1)) (kk : ∀ (H1 : Heap) (locs1 : List Loc), mW Γ.1 vwCl A L (rM Γ L (sA x 12 i.toNatClampNeg v)) H1 → va_S A s.heap H1 locs1 → W p l e R s m args below meth c H1 locs1 cells slots Q (F0 m (pc + 1) ls rest)) : W p l e R s m args below meth c H locs cells slots Q (F0 m pc ls (.int v :: .int i :: .ref (L (.inr (0, 12, 0))) :: rest)) := m_iast X hw hS (i := .inr (0, 12, 0)) rfl hin hdg (fun H1 locs1 h1 h2 => kk H1 locs1 (by have e := rU_12 Γ x i.toNatClampNeg v; show mW Γ.1 vwCl A L ([.inr (8, rF L x)], [rA Γ (sA x 12 i.toNatClampNeg v)]) H1; rw [← e]; exact h1) h2)
theorem r_get13 (X : mX Γ p m c cc nL s args RX10 A) (hw : mW Γ.1 vwCl A L (rM Γ L x) H) (hdg : decode cc pc = .ok (.getfield 225, 3)) (kk : W p l e R s m args below meth c H locs cells slots Q (F0 m (pc + 3) ls (.int (x.1 13) :: rest))) : W p l e R s m args below meth c H locs cells slots Q (F0 m pc ls (.ref (L (.inl 0)) :: rest)) := m_get X hw (i := .inl 0) (ci := 8) rfl rfl gX10 13 (by decide) fl_X10_225 rfl rfl hdg kk
theorem r_put13 {v : Int32} (X : mX Γ p m c cc nL s args RX10 A) (hw : mW Γ.1 vwCl A L (rM Γ L x) H) (hS : va_S A s.heap H locs) (hdg : decode cc pc = .ok (.putfield 225, 3)) (kk : ∀ (H1 : Heap) (locs1 : List Loc), mW Γ.1 vwCl A L (rM Γ L (sS x 13 v)) H1 → va_S A s.heap H1 locs1 → W p l e R s m args below meth c H1 locs1 cells slots Q (F0 m (pc + 3) ls rest)) : W p l e R s m args below meth c H locs cells slots Q (F0 m pc ls (.int v :: .ref (L (.inl 0)) :: rest)) := m_put X hw hS (i := .inl 0) (ci := 8) (ty := .int) rfl rfl gX10 tyX10 tyX10_ok nmX10 13 (by decide) fl_X10_225 rfl rfl rfl rfl rfl (show 13 < 35 by decide) hdg kk
theorem r_get14 (X : mX Γ p m c cc nL s args RX10 A) (hw : mW Γ.1 vwCl A L (rM Γ L x) H) (hdg : decode cc pc = .ok (.getfield 45, 3)) (kk : W p l e R s m args below meth c H locs cells slots Q (F0 m (pc + 3) ls (.ref (L (.inr (0, 14, 0))) :: rest))) : W p l e R s m args below meth c H locs cells slots Q (F0 m pc ls (.ref (L (.inl 0)) :: rest)) := m_get X hw (i := .inl 0) (ci := 8) rfl rfl gX10 14 (by decide) fl_X10_45 rfl rfl hdg kk
theorem r_ald14 {i : Int32} (X : mX Γ p m c cc nL s args RX10 A) (hw : mW Γ.1 vwCl A L (rM Γ L x) H) (hin : vp_in i 16) (hdg : decode cc pc = .ok (.iaload, 1)) (kk : W p l e R s m args below meth c H locs cells slots Q (F0 m (pc + 1) ls (.int (x.2.1 14 i.toNatClampNeg) :: rest))) : W p l e R s m args below meth c H locs cells slots Q (F0 m pc ls (.int i :: .ref (L (.inr (0, 14, 0))) :: rest)) := m_iald X hw (i := .inr (0, 14, 0)) rfl hin hdg kk
theorem r_ast14 {i v : Int32} (X : mX Γ p m c cc nL s args RX10 A) (hw : mW Γ.1 vwCl A L (rM Γ L x) H) (hS : va_S A s.heap H locs) (hin : vp_in i 16) (hdg : decode cc pc = .ok (.iastore, 1)) (kk : ∀ (H1 : Heap) (locs1 : List Loc), mW Γ.1 vwCl A L (rM Γ L (sA x 14 i.toNatClampNeg v)) H1 → va_S A s.heap H1 locs1 → W p l e R s m args below meth c H1 locs1 cells slots Q (F0 m (pc + 1) ls rest)) : W p l e R s m args below meth c H locs cells slots Q (F0 m pc ls (.int v :: .int i :: .ref (L (.inr (0, 14, 0))) :: rest)) := m_iast X hw hS (i := .inr (0, 14, 0)) rfl hin hdg (fun H1 locs1 h1 h2 => kk H1 locs1 (by have e := rU_14 Γ x i.toNatClampNeg v; show mW Γ.1 vwCl A L ([.inr (8, rF L x)], [rA Γ (sA x 14 i.toNatClampNeg v)]) H1; rw [← e]; exact h1) h2)
theorem r_get15 (X : mX Γ p m c cc nL s args RX10 A) (hw : mW Γ.1 vwCl A L (rM Γ L x) H) (hdg : decode cc pc = .ok (.getfield 145, 3)) (kk : W p l e R s m args below meth c H locs cells slots Q (F0 m (pc + 3) ls (.int (x.1 15) :: rest))) : W p l e R s m args below meth c H locs cells slots Q (F0 m pc ls (.ref (L (.inl 0)) :: rest)) := m_get X hw (i := .inl 0) (ci := 8) rfl rfl gX10 15 (by decide) fl_X10_145 rfl rfl hdg kk
theorem r_put15 {v : Int32} (X : mX Γ p m c cc nL s args RX10 A) (hw : mW Γ.1 vwCl A L (rM Γ L x) H) (hS : va_S A s.heap H locs) (hdg : decode cc pc = .ok (.putfield 145, 3)) (kk : ∀ (H1 : Heap) (locs1 : List Loc), mW Γ.1 vwCl A L (rM Γ L (sS x 15 v)) H1 → va_S A s.heap H1 locs1 → W p l e R s m args below meth c H1 locs1 cells slots Q (F0 m (pc + 3) ls rest)) : W p l e R s m args below meth c H locs cells slots Q (F0 m pc ls (.int v :: .ref (L (.inl 0)) :: rest)) := m_put X hw hS (i := .inl 0) (ci := 8) (ty := .int) rfl rfl gX10 tyX10 tyX10_ok nmX10 15 (by decide) fl_X10_145 rfl rfl rfl rfl rfl (show 15 < 35 by decide) hdg kk
theorem r_get16 (X : mX Γ p m c cc nL s args RX10 A) (hw : mW Γ.1 vwCl A L (rM Γ L x) H) (hdg : decode cc pc = .ok (.getfield 212, 3)) (kk : W p l e R s m args below meth c H locs cells slots Q (F0 m (pc + 3) ls (.int (x.1 16) :: rest))) : W p l e R s m args below meth c H locs cells slots Q (F0 m pc ls (.ref (L (.inl 0)) :: rest)) := m_get X hw (i := .inl 0) (ci := 8) rfl rfl gX10 16 (by decide) fl_X10_212 rfl rfl hdg kk
theorem r_put16 {v : Int32} (X : mX Γ p m c cc nL s args RX10 A) (hw : mW Γ.1 vwCl A L (rM Γ L x) H) (hS : va_S A s.heap H locs) (hn : narrow .boolean (.int v) = .int v) (hf : fits .boolean (.int v) = true) (hdg : decode cc pc = .ok (.putfield 212, 3)) (kk : ∀ (H1 : Heap) (locs1 : List Loc), mW Γ.1 vwCl A L (rM Γ L (sS x 16 v)) H1 → va_S A s.heap H1 locs1 → W p l e R s m args below meth c H1 locs1 cells slots Q (F0 m (pc + 3) ls rest)) : W p l e R s m args below meth c H locs cells slots Q (F0 m pc ls (.int v :: .ref (L (.inl 0)) :: rest)) := m_put X hw hS (i := .inl 0) (ci := 8) (ty := .boolean) rfl rfl gX10 tyX10 tyX10_ok nmX10 16 (by decide) fl_X10_212 rfl rfl rfl hn hf (show 16 < 35 by decide) hdg kk
theorem r_get17 (X : mX Γ p m c cc nL s args RX10 A) (hw : mW Γ.1 vwCl A L (rM Γ L x) H) (hdg : decode cc pc = .ok (.getfield 48, 3)) (kk : W p l e R s m args below meth c H locs cells slots Q (F0 m (pc + 3) ls (.ref (L (.inr (0, 17, 0))) :: rest))) : W p l e R s m args below meth c H locs cells slots Q (F0 m pc ls (.ref (L (.inl 0)) :: rest)) := m_get X hw (i := .inl 0) (ci := 8) rfl rfl gX10 17 (by decide) fl_X10_48 rfl rfl hdg kk
theorem r_ald17 {i : Int32} (X : mX Γ p m c cc nL s args RX10 A) (hw : mW Γ.1 vwCl A L (rM Γ L x) H) (hin : vp_in i 8) (hdg : decode cc pc = .ok (.iaload, 1)) (kk : W p l e R s m args below meth c H locs cells slots Q (F0 m (pc + 1) ls (.int (x.2.1 17 i.toNatClampNeg) :: rest))) : W p l e R s m args below meth c H locs cells slots Q (F0 m pc ls (.int i :: .ref (L (.inr (0, 17, 0))) :: rest)) := m_iald X hw (i := .inr (0, 17, 0)) rfl hin hdg kk
theorem r_ast17 {i v : Int32} (X : mX Γ p m c cc nL s args RX10 A) (hw : mW Γ.1 vwCl A L (rM Γ L x) H) (hS : va_S A s.heap H locs) (hin : vp_in i 8) (hdg : decode cc pc = .ok (.iastore, 1)) (kk : ∀ (H1 : Heap) (locs1 : List Loc), mW Γ.1 vwCl A L (rM Γ L (sA x 17 i.toNatClampNeg v)) H1 → va_S A s.heap H1 locs1 → W p l e R s m args below meth c H1 locs1 cells slots Q (F0 m (pc + 1) ls rest)) : W p l e R s m args below meth c H locs cells slots Q (F0 m pc ls (.int v :: .int i :: .ref (L (.inr (0, 17, 0))) :: rest)) := m_iast X hw hS (i := .inr (0, 17, 0)) rfl hin hdg (fun H1 locs1 h1 h2 => kk H1 locs1 (by have e := rU_17 Γ x i.toNatClampNeg v; show mW Γ.1 vwCl A L ([.inr (8, rF L x)], [rA Γ (sA x 17 i.toNatClampNeg v)]) H1; rw [← e]; exact h1) h2)
theorem r_get18 (X : mX Γ p m c cc nL s args RX10 A) (hw : mW Γ.1 vwCl A L (rM Γ L x) H) (hdg : decode cc pc = .ok (.getfield 51, 3)) (kk : W p l e R s m args below meth c H locs cells slots Q (F0 m (pc + 3) ls (.ref (L (.inr (0, 18, 0))) :: rest))) : W p l e R s m args below meth c H locs cells slots Q (F0 m pc ls (.ref (L (.inl 0)) :: rest)) := m_get X hw (i := .inl 0) (ci := 8) rfl rfl gX10 18 (by decide) fl_X10_51 rfl rfl hdg kk
theorem r_ald18 {i : Int32} (X : mX Γ p m c cc nL s args RX10 A) (hw : mW Γ.1 vwCl A L (rM Γ L x) H) (hin : vp_in i 128) (hdg : decode cc pc = .ok (.laload, 1)) (kk : W p l e R s m args below meth c H locs cells slots Q (F0 m (pc + 1) ls (.long (x.2.2 18 i.toNatClampNeg) :: rest))) : W p l e R s m args below meth c H locs cells slots Q (F0 m pc ls (.int i :: .ref (L (.inr (0, 18, 0))) :: rest)) := m_lald X hw (i := .inr (0, 18, 0)) rfl hin hdg kk
theorem r_ast18 {i : Int32} {v : Int64} (X : mX Γ p m c cc nL s args RX10 A) (hw : mW Γ.1 vwCl A L (rM Γ L x) H) (hS : va_S A s.heap H locs) (hin : vp_in i 128) (hdg : decode cc pc = .ok (.lastore, 1)) (kk : ∀ (H1 : Heap) (locs1 : List Loc), mW Γ.1 vwCl A L (rM Γ L (sJ x 18 i.toNatClampNeg v)) H1 → va_S A s.heap H1 locs1 → W p l e R s m args below meth c H1 locs1 cells slots Q (F0 m (pc + 1) ls rest)) : W p l e R s m args below meth c H locs cells slots Q (F0 m pc ls (.long v :: .int i :: .ref (L (.inr (0, 18, 0))) :: rest)) := m_last X hw hS (i := .inr (0, 18, 0)) rfl hin hdg (fun H1 locs1 h1 h2 => kk H1 locs1 (by have e := rU_18 Γ x i.toNatClampNeg v; show mW Γ.1 vwCl A L ([.inr (8, rF L x)], [rA Γ (sJ x 18 i.toNatClampNeg v)]) H1; rw [← e]; exact h1) h2)
theorem r_get19 (X : mX Γ p m c cc nL s args RX10 A) (hw : mW Γ.1 vwCl A L (rM Γ L x) H) (hdg : decode cc pc = .ok (.getfield 54, 3)) (kk : W p l e R s m args below meth c H locs cells slots Q (F0 m (pc + 3) ls (.ref (L (.inr (0, 19, 0))) :: rest))) : W p l e R s m args below meth c H locs cells slots Q (F0 m pc ls (.ref (L (.inl 0)) :: rest)) := m_get X hw (i := .inl 0) (ci := 8) rfl rfl gX10 19 (by decide) fl_X10_54 rfl rfl hdg kk
theorem r_ald19 {i : Int32} (X : mX Γ p m c cc nL s args RX10 A) (hw : mW Γ.1 vwCl A L (rM Γ L x) H) (hin : vp_in i 8) (hdg : decode cc pc = .ok (.iaload, 1)) (kk : W p l e R s m args below meth c H locs cells slots Q (F0 m (pc + 1) ls (.int (x.2.1 19 i.toNatClampNeg) :: rest))) : W p l e R s m args below meth c H locs cells slots Q (F0 m pc ls (.int i :: .ref (L (.inr (0, 19, 0))) :: rest)) := m_iald X hw (i := .inr (0, 19, 0)) rfl hin hdg kk
theorem r_ast19 {i v : Int32} (X : mX Γ p m c cc nL s args RX10 A) (hw : mW Γ.1 vwCl A L (rM Γ L x) H) (hS : va_S A s.heap H locs) (hin : vp_in i 8) (hdg : decode cc pc = .ok (.iastore, 1)) (kk : ∀ (H1 : Heap) (locs1 : List Loc), mW Γ.1 vwCl A L (rM Γ L (sA x 19 i.toNatClampNeg v)) H1 → va_S A s.heap H1 locs1 → W p l e R s m args below meth c H1 locs1 cells slots Q (F0 m (pc + 1) ls rest)) : W p l e R s m args below meth c H locs cells slots Q (F0 m pc ls (.int v :: .int i :: .ref (L (.inr (0, 19, 0))) :: rest)) := m_iast X hw hS (i := .inr (0, 19, 0)) rfl hin hdg (fun H1 locs1 h1 h2 => kk H1 locs1 (by have e := rU_19 Γ x i.toNatClampNeg v; show mW Γ.1 vwCl A L ([.inr (8, rF L x)], [rA Γ (sA x 19 i.toNatClampNeg v)]) H1; rw [← e]; exact h1) h2)
theorem r_get20 (X : mX Γ p m c cc nL s args RX10 A) (hw : mW Γ.1 vwCl A L (rM Γ L x) H) (hdg : decode cc pc = .ok (.getfield 57, 3)) (kk : W p l e R s m args below meth c H locs cells slots Q (F0 m (pc + 3) ls (.ref (L (.inr (0, 20, 0))) :: rest))) : W p l e R s m args below meth c H locs cells slots Q (F0 m pc ls (.ref (L (.inl 0)) :: rest)) := m_get X hw (i := .inl 0) (ci := 8) rfl rfl gX10 20 (by decide) fl_X10_57 rfl rfl hdg kk
theorem r_ald20 {i : Int32} (X : mX Γ p m c cc nL s args RX10 A) (hw : mW Γ.1 vwCl A L (rM Γ L x) H) (hin : vp_in i 8) (hdg : decode cc pc = .ok (.iaload, 1)) (kk : W p l e R s m args below meth c H locs cells slots Q (F0 m (pc + 1) ls (.int (x.2.1 20 i.toNatClampNeg) :: rest))) : W p l e R s m args below meth c H locs cells slots Q (F0 m pc ls (.int i :: .ref (L (.inr (0, 20, 0))) :: rest)) := m_iald X hw (i := .inr (0, 20, 0)) rfl hin hdg kk
theorem r_ast20 {i v : Int32} (X : mX Γ p m c cc nL s args RX10 A) (hw : mW Γ.1 vwCl A L (rM Γ L x) H) (hS : va_S A s.heap H locs) (hin : vp_in i 8) (hdg : decode cc pc = .ok (.iastore, 1)) (kk : ∀ (H1 : Heap) (locs1 : List Loc), mW Γ.1 vwCl A L (rM Γ L (sA x 20 i.toNatClampNeg v)) H1 → va_S A s.heap H1 locs1 → W p l e R s m args below meth c H1 locs1 cells slots Q (F0 m (pc + 1) ls rest)) : W p l e R s m args below meth c H locs cells slots Q (F0 m pc ls (.int v :: .int i :: .ref (L (.inr (0, 20, 0))) :: rest)) := m_iast X hw hS (i := .inr (0, 20, 0)) rfl hin hdg (fun H1 locs1 h1 h2 => kk H1 locs1 (by have e := rU_20 Γ x i.toNatClampNeg v; show mW Γ.1 vwCl A L ([.inr (8, rF L x)], [rA Γ (sA x 20 i.toNatClampNeg v)]) H1; rw [← e]; exact h1) h2)
theorem r_get21 (X : mX Γ p m c cc nL s args RX10 A) (hw : mW Γ.1 vwCl A L (rM Γ L x) H) (hdg : decode cc pc = .ok (.getfield 60, 3)) (kk : W p l e R s m args below meth c H locs cells slots Q (F0 m (pc + 3) ls (.ref (L (.inr (0, 21, 0))) :: rest))) : W p l e R s m args below meth c H locs cells slots Q (F0 m pc ls (.ref (L (.inl 0)) :: rest)) := m_get X hw (i := .inl 0) (ci := 8) rfl rfl gX10 21 (by decide) fl_X10_60 rfl rfl hdg kk
theorem r_ald21 {i : Int32} (X : mX Γ p m c cc nL s args RX10 A) (hw : mW Γ.1 vwCl A L (rM Γ L x) H) (hin : vp_in i 8) (hdg : decode cc pc = .ok (.iaload, 1)) (kk : W p l e R s m args below meth c H locs cells slots Q (F0 m (pc + 1) ls (.int (x.2.1 21 i.toNatClampNeg) :: rest))) : W p l e R s m args below meth c H locs cells slots Q (F0 m pc ls (.int i :: .ref (L (.inr (0, 21, 0))) :: rest)) := m_iald X hw (i := .inr (0, 21, 0)) rfl hin hdg kk
theorem r_ast21 {i v : Int32} (X : mX Γ p m c cc nL s args RX10 A) (hw : mW Γ.1 vwCl A L (rM Γ L x) H) (hS : va_S A s.heap H locs) (hin : vp_in i 8) (hdg : decode cc pc = .ok (.iastore, 1)) (kk : ∀ (H1 : Heap) (locs1 : List Loc), mW Γ.1 vwCl A L (rM Γ L (sA x 21 i.toNatClampNeg v)) H1 → va_S A s.heap H1 locs1 → W p l e R s m args below meth c H1 locs1 cells slots Q (F0 m (pc + 1) ls rest)) : W p l e R s m args below meth c H locs cells slots Q (F0 m pc ls (.int v :: .int i :: .ref (L (.inr (0, 21, 0))) :: rest)) := m_iast X hw hS (i := .inr (0, 21, 0)) rfl hin hdg (fun H1 locs1 h1 h2 => kk H1 locs1 (by have e := rU_21 Γ x i.toNatClampNeg v; show mW Γ.1 vwCl A L ([.inr (8, rF L x)], [rA Γ (sA x 21 i.toNatClampNeg v)]) H1; rw [← e]; exact h1) h2)
theorem r_get22 (X : mX Γ p m c cc nL s args RX10 A) (hw : mW Γ.1 vwCl A L (rM Γ L x) H) (hdg : decode cc pc = .ok (.getfield 235, 3)) (kk : W p l e R s m args below meth c H locs cells slots Q (F0 m (pc + 3) ls (.int (x.1 22) :: rest))) : W p l e R s m args below meth c H locs cells slots Q (F0 m pc ls (.ref (L (.inl 0)) :: rest)) := m_get X hw (i := .inl 0) (ci := 8) rfl rfl gX10 22 (by decide) fl_X10_235 rfl rfl hdg kk
theorem r_put22 {v : Int32} (X : mX Γ p m c cc nL s args RX10 A) (hw : mW Γ.1 vwCl A L (rM Γ L x) H) (hS : va_S A s.heap H locs) (hdg : decode cc pc = .ok (.putfield 235, 3)) (kk : ∀ (H1 : Heap) (locs1 : List Loc), mW Γ.1 vwCl A L (rM Γ L (sS x 22 v)) H1 → va_S A s.heap H1 locs1 → W p l e R s m args below meth c H1 locs1 cells slots Q (F0 m (pc + 3) ls rest)) : W p l e R s m args below meth c H locs cells slots Q (F0 m pc ls (.int v :: .ref (L (.inl 0)) :: rest)) := m_put X hw hS (i := .inl 0) (ci := 8) (ty := .int) rfl rfl gX10 tyX10 tyX10_ok nmX10 22 (by decide) fl_X10_235 rfl rfl rfl rfl rfl (show 22 < 35 by decide) hdg kk
theorem r_get23 (X : mX Γ p m c cc nL s args RX10 A) (hw : mW Γ.1 vwCl A L (rM Γ L x) H) (hdg : decode cc pc = .ok (.getfield 248, 3)) (kk : W p l e R s m args below meth c H locs cells slots Q (F0 m (pc + 3) ls (.int (x.1 23) :: rest))) : W p l e R s m args below meth c H locs cells slots Q (F0 m pc ls (.ref (L (.inl 0)) :: rest)) := m_get X hw (i := .inl 0) (ci := 8) rfl rfl gX10 23 (by decide) fl_X10_248 rfl rfl hdg kk
theorem r_put23 {v : Int32} (X : mX Γ p m c cc nL s args RX10 A) (hw : mW Γ.1 vwCl A L (rM Γ L x) H) (hS : va_S A s.heap H locs) (hdg : decode cc pc = .ok (.putfield 248, 3)) (kk : ∀ (H1 : Heap) (locs1 : List Loc), mW Γ.1 vwCl A L (rM Γ L (sS x 23 v)) H1 → va_S A s.heap H1 locs1 → W p l e R s m args below meth c H1 locs1 cells slots Q (F0 m (pc + 3) ls rest)) : W p l e R s m args below meth c H locs cells slots Q (F0 m pc ls (.int v :: .ref (L (.inl 0)) :: rest)) := m_put X hw hS (i := .inl 0) (ci := 8) (ty := .int) rfl rfl gX10 tyX10 tyX10_ok nmX10 23 (by decide) fl_X10_248 rfl rfl rfl rfl rfl (show 23 < 35 by decide) hdg kk
theorem r_get24 (X : mX Γ p m c cc nL s args RX10 A) (hw : mW Γ.1 vwCl A L (rM Γ L x) H) (hdg : decode cc pc = .ok (.getfield 63, 3)) (kk : W p l e R s m args below meth c H locs cells slots Q (F0 m (pc + 3) ls (.ref (L (.inr (0, 24, 0))) :: rest))) : W p l e R s m args below meth c H locs cells slots Q (F0 m pc ls (.ref (L (.inl 0)) :: rest)) := m_get X hw (i := .inl 0) (ci := 8) rfl rfl gX10 24 (by decide) fl_X10_63 rfl rfl hdg kk
theorem r_ald24 {i : Int32} (X : mX Γ p m c cc nL s args RX10 A) (hw : mW Γ.1 vwCl A L (rM Γ L x) H) (hin : vp_in i 20) (hdg : decode cc pc = .ok (.iaload, 1)) (kk : W p l e R s m args below meth c H locs cells slots Q (F0 m (pc + 1) ls (.int (x.2.1 24 i.toNatClampNeg) :: rest))) : W p l e R s m args below meth c H locs cells slots Q (F0 m pc ls (.int i :: .ref (L (.inr (0, 24, 0))) :: rest)) := m_iald X hw (i := .inr (0, 24, 0)) rfl hin hdg kk
theorem r_ast24 {i v : Int32} (X : mX Γ p m c cc nL s args RX10 A) (hw : mW Γ.1 vwCl A L (rM Γ L x) H) (hS : va_S A s.heap H locs) (hin : vp_in i 20) (hdg : decode cc pc = .ok (.iastore, 1)) (kk : ∀ (H1 : Heap) (locs1 : List Loc), mW Γ.1 vwCl A L (rM Γ L (sA x 24 i.toNatClampNeg v)) H1 → va_S A s.heap H1 locs1 → W p l e R s m args below meth c H1 locs1 cells slots Q (F0 m (pc + 1) ls rest)) : W p l e R s m args below meth c H locs cells slots Q (F0 m pc ls (.int v :: .int i :: .ref (L (.inr (0, 24, 0))) :: rest)) := m_iast X hw hS (i := .inr (0, 24, 0)) rfl hin hdg (fun H1 locs1 h1 h2 => kk H1 locs1 (by have e := rU_24 Γ x i.toNatClampNeg v; show mW Γ.1 vwCl A L ([.inr (8, rF L x)], [rA Γ (sA x 24 i.toNatClampNeg v)]) H1; rw [← e]; exact h1) h2)
theorem r_get25 (X : mX Γ p m c cc nL s args RX10 A) (hw : mW Γ.1 vwCl A L (rM Γ L x) H) (hdg : decode cc pc = .ok (.getfield 66, 3)) (kk : W p l e R s m args below meth c H locs cells slots Q (F0 m (pc + 3) ls (.ref (L (.inr (0, 25, 0))) :: rest))) : W p l e R s m args below meth c H locs cells slots Q (F0 m pc ls (.ref (L (.inl 0)) :: rest)) := m_get X hw (i := .inl 0) (ci := 8) rfl rfl gX10 25 (by decide) fl_X10_66 rfl rfl hdg kk
theorem r_ald25 {i : Int32} (X : mX Γ p m c cc nL s args RX10 A) (hw : mW Γ.1 vwCl A L (rM Γ L x) H) (hin : vp_in i 20) (hdg : decode cc pc = .ok (.iaload, 1)) (kk : W p l e R s m args below meth c H locs cells slots Q (F0 m (pc + 1) ls (.int (x.2.1 25 i.toNatClampNeg) :: rest))) : W p l e R s m args below meth c H locs cells slots Q (F0 m pc ls (.int i :: .ref (L (.inr (0, 25, 0))) :: rest)) := m_iald X hw (i := .inr (0, 25, 0)) rfl hin hdg kk
theorem r_ast25 {i v : Int32} (X : mX Γ p m c cc nL s args RX10 A) (hw : mW Γ.1 vwCl A L (rM Γ L x) H) (hS : va_S A s.heap H locs) (hin : vp_in i 20) (hdg : decode cc pc = .ok (.iastore, 1)) (kk : ∀ (H1 : Heap) (locs1 : List Loc), mW Γ.1 vwCl A L (rM Γ L (sA x 25 i.toNatClampNeg v)) H1 → va_S A s.heap H1 locs1 → W p l e R s m args below meth c H1 locs1 cells slots Q (F0 m (pc + 1) ls rest)) : W p l e R s m args below meth c H locs cells slots Q (F0 m pc ls (.int v :: .int i :: .ref (L (.inr (0, 25, 0))) :: rest)) := m_iast X hw hS (i := .inr (0, 25, 0)) rfl hin hdg (fun H1 locs1 h1 h2 => kk H1 locs1 (by have e := rU_25 Γ x i.toNatClampNeg v; show mW Γ.1 vwCl A L ([.inr (8, rF L x)], [rA Γ (sA x 25 i.toNatClampNeg v)]) H1; rw [← e]; exact h1) h2)
theorem r_get26 (X : mX Γ p m c cc nL s args RX10 A) (hw : mW Γ.1 vwCl A L (rM Γ L x) H) (hdg : decode cc pc = .ok (.getfield 69, 3)) (kk : W p l e R s m args below meth c H locs cells slots Q (F0 m (pc + 3) ls (.ref (L (.inr (0, 26, 0))) :: rest))) : W p l e R s m args below meth c H locs cells slots Q (F0 m pc ls (.ref (L (.inl 0)) :: rest)) := m_get X hw (i := .inl 0) (ci := 8) rfl rfl gX10 26 (by decide) fl_X10_69 rfl rfl hdg kk
theorem r_ald26 {i : Int32} (X : mX Γ p m c cc nL s args RX10 A) (hw : mW Γ.1 vwCl A L (rM Γ L x) H) (hin : vp_in i 20) (hdg : decode cc pc = .ok (.iaload, 1)) (kk : W p l e R s m args below meth c H locs cells slots Q (F0 m (pc + 1) ls (.int (x.2.1 26 i.toNatClampNeg) :: rest))) : W p l e R s m args below meth c H locs cells slots Q (F0 m pc ls (.int i :: .ref (L (.inr (0, 26, 0))) :: rest)) := m_iald X hw (i := .inr (0, 26, 0)) rfl hin hdg kk
theorem r_ast26 {i v : Int32} (X : mX Γ p m c cc nL s args RX10 A) (hw : mW Γ.1 vwCl A L (rM Γ L x) H) (hS : va_S A s.heap H locs) (hin : vp_in i 20) (hdg : decode cc pc = .ok (.iastore, 1)) (kk : ∀ (H1 : Heap) (locs1 : List Loc), mW Γ.1 vwCl A L (rM Γ L (sA x 26 i.toNatClampNeg v)) H1 → va_S A s.heap H1 locs1 → W p l e R s m args below meth c H1 locs1 cells slots Q (F0 m (pc + 1) ls rest)) : W p l e R s m args below meth c H locs cells slots Q (F0 m pc ls (.int v :: .int i :: .ref (L (.inr (0, 26, 0))) :: rest)) := m_iast X hw hS (i := .inr (0, 26, 0)) rfl hin hdg (fun H1 locs1 h1 h2 => kk H1 locs1 (by have e := rU_26 Γ x i.toNatClampNeg v; show mW Γ.1 vwCl A L ([.inr (8, rF L x)], [rA Γ (sA x 26 i.toNatClampNeg v)]) H1; rw [← e]; exact h1) h2)
theorem r_get27 (X : mX Γ p m c cc nL s args RX10 A) (hw : mW Γ.1 vwCl A L (rM Γ L x) H) (hdg : decode cc pc = .ok (.getfield 72, 3)) (kk : W p l e R s m args below meth c H locs cells slots Q (F0 m (pc + 3) ls (.ref (L (.inr (0, 27, 0))) :: rest))) : W p l e R s m args below meth c H locs cells slots Q (F0 m pc ls (.ref (L (.inl 0)) :: rest)) := m_get X hw (i := .inl 0) (ci := 8) rfl rfl gX10 27 (by decide) fl_X10_72 rfl rfl hdg kk
theorem r_ald27 {i : Int32} (X : mX Γ p m c cc nL s args RX10 A) (hw : mW Γ.1 vwCl A L (rM Γ L x) H) (hin : vp_in i 600) (hdg : decode cc pc = .ok (.laload, 1)) (kk : W p l e R s m args below meth c H locs cells slots Q (F0 m (pc + 1) ls (.long (x.2.2 27 i.toNatClampNeg) :: rest))) : W p l e R s m args below meth c H locs cells slots Q (F0 m pc ls (.int i :: .ref (L (.inr (0, 27, 0))) :: rest)) := m_lald X hw (i := .inr (0, 27, 0)) rfl hin hdg kk
theorem r_ast27 {i : Int32} {v : Int64} (X : mX Γ p m c cc nL s args RX10 A) (hw : mW Γ.1 vwCl A L (rM Γ L x) H) (hS : va_S A s.heap H locs) (hin : vp_in i 600) (hdg : decode cc pc = .ok (.lastore, 1)) (kk : ∀ (H1 : Heap) (locs1 : List Loc), mW Γ.1 vwCl A L (rM Γ L (sJ x 27 i.toNatClampNeg v)) H1 → va_S A s.heap H1 locs1 → W p l e R s m args below meth c H1 locs1 cells slots Q (F0 m (pc + 1) ls rest)) : W p l e R s m args below meth c H locs cells slots Q (F0 m pc ls (.long v :: .int i :: .ref (L (.inr (0, 27, 0))) :: rest)) := m_last X hw hS (i := .inr (0, 27, 0)) rfl hin hdg (fun H1 locs1 h1 h2 => kk H1 locs1 (by have e := rU_27 Γ x i.toNatClampNeg v; show mW Γ.1 vwCl A L ([.inr (8, rF L x)], [rA Γ (sJ x 27 i.toNatClampNeg v)]) H1; rw [← e]; exact h1) h2)
theorem r_get28 (X : mX Γ p m c cc nL s args RX10 A) (hw : mW Γ.1 vwCl A L (rM Γ L x) H) (hdg : decode cc pc = .ok (.getfield 263, 3)) (kk : W p l e R s m args below meth c H locs cells slots Q (F0 m (pc + 3) ls (.int (x.1 28) :: rest))) : W p l e R s m args below meth c H locs cells slots Q (F0 m pc ls (.ref (L (.inl 0)) :: rest)) := m_get X hw (i := .inl 0) (ci := 8) rfl rfl gX10 28 (by decide) fl_X10_263 rfl rfl hdg kk
theorem r_put28 {v : Int32} (X : mX Γ p m c cc nL s args RX10 A) (hw : mW Γ.1 vwCl A L (rM Γ L x) H) (hS : va_S A s.heap H locs) (hdg : decode cc pc = .ok (.putfield 263, 3)) (kk : ∀ (H1 : Heap) (locs1 : List Loc), mW Γ.1 vwCl A L (rM Γ L (sS x 28 v)) H1 → va_S A s.heap H1 locs1 → W p l e R s m args below meth c H1 locs1 cells slots Q (F0 m (pc + 3) ls rest)) : W p l e R s m args below meth c H locs cells slots Q (F0 m pc ls (.int v :: .ref (L (.inl 0)) :: rest)) := m_put X hw hS (i := .inl 0) (ci := 8) (ty := .int) rfl rfl gX10 tyX10 tyX10_ok nmX10 28 (by decide) fl_X10_263 rfl rfl rfl rfl rfl (show 28 < 35 by decide) hdg kk
theorem r_get29 (X : mX Γ p m c cc nL s args RX10 A) (hw : mW Γ.1 vwCl A L (rM Γ L x) H) (hdg : decode cc pc = .ok (.getfield 251, 3)) (kk : W p l e R s m args below meth c H locs cells slots Q (F0 m (pc + 3) ls (.int (x.1 29) :: rest))) : W p l e R s m args below meth c H locs cells slots Q (F0 m pc ls (.ref (L (.inl 0)) :: rest)) := m_get X hw (i := .inl 0) (ci := 8) rfl rfl gX10 29 (by decide) fl_X10_251 rfl rfl hdg kk
theorem r_put29 {v : Int32} (X : mX Γ p m c cc nL s args RX10 A) (hw : mW Γ.1 vwCl A L (rM Γ L x) H) (hS : va_S A s.heap H locs) (hdg : decode cc pc = .ok (.putfield 251, 3)) (kk : ∀ (H1 : Heap) (locs1 : List Loc), mW Γ.1 vwCl A L (rM Γ L (sS x 29 v)) H1 → va_S A s.heap H1 locs1 → W p l e R s m args below meth c H1 locs1 cells slots Q (F0 m (pc + 3) ls rest)) : W p l e R s m args below meth c H locs cells slots Q (F0 m pc ls (.int v :: .ref (L (.inl 0)) :: rest)) := m_put X hw hS (i := .inl 0) (ci := 8) (ty := .int) rfl rfl gX10 tyX10 tyX10_ok nmX10 29 (by decide) fl_X10_251 rfl rfl rfl rfl rfl (show 29 < 35 by decide) hdg kk
theorem r_get30 (X : mX Γ p m c cc nL s args RX10 A) (hw : mW Γ.1 vwCl A L (rM Γ L x) H) (hdg : decode cc pc = .ok (.getfield 254, 3)) (kk : W p l e R s m args below meth c H locs cells slots Q (F0 m (pc + 3) ls (.int (x.1 30) :: rest))) : W p l e R s m args below meth c H locs cells slots Q (F0 m pc ls (.ref (L (.inl 0)) :: rest)) := m_get X hw (i := .inl 0) (ci := 8) rfl rfl gX10 30 (by decide) fl_X10_254 rfl rfl hdg kk
theorem r_put30 {v : Int32} (X : mX Γ p m c cc nL s args RX10 A) (hw : mW Γ.1 vwCl A L (rM Γ L x) H) (hS : va_S A s.heap H locs) (hdg : decode cc pc = .ok (.putfield 254, 3)) (kk : ∀ (H1 : Heap) (locs1 : List Loc), mW Γ.1 vwCl A L (rM Γ L (sS x 30 v)) H1 → va_S A s.heap H1 locs1 → W p l e R s m args below meth c H1 locs1 cells slots Q (F0 m (pc + 3) ls rest)) : W p l e R s m args below meth c H locs cells slots Q (F0 m pc ls (.int v :: .ref (L (.inl 0)) :: rest)) := m_put X hw hS (i := .inl 0) (ci := 8) (ty := .int) rfl rfl gX10 tyX10 tyX10_ok nmX10 30 (by decide) fl_X10_254 rfl rfl rfl rfl rfl (show 30 < 35 by decide) hdg kk
theorem r_get31 (X : mX Γ p m c cc nL s args RX10 A) (hw : mW Γ.1 vwCl A L (rM Γ L x) H) (hdg : decode cc pc = .ok (.getfield 257, 3)) (kk : W p l e R s m args below meth c H locs cells slots Q (F0 m (pc + 3) ls (.int (x.1 31) :: rest))) : W p l e R s m args below meth c H locs cells slots Q (F0 m pc ls (.ref (L (.inl 0)) :: rest)) := m_get X hw (i := .inl 0) (ci := 8) rfl rfl gX10 31 (by decide) fl_X10_257 rfl rfl hdg kk
theorem r_put31 {v : Int32} (X : mX Γ p m c cc nL s args RX10 A) (hw : mW Γ.1 vwCl A L (rM Γ L x) H) (hS : va_S A s.heap H locs) (hdg : decode cc pc = .ok (.putfield 257, 3)) (kk : ∀ (H1 : Heap) (locs1 : List Loc), mW Γ.1 vwCl A L (rM Γ L (sS x 31 v)) H1 → va_S A s.heap H1 locs1 → W p l e R s m args below meth c H1 locs1 cells slots Q (F0 m (pc + 3) ls rest)) : W p l e R s m args below meth c H locs cells slots Q (F0 m pc ls (.int v :: .ref (L (.inl 0)) :: rest)) := m_put X hw hS (i := .inl 0) (ci := 8) (ty := .int) rfl rfl gX10 tyX10 tyX10_ok nmX10 31 (by decide) fl_X10_257 rfl rfl rfl rfl rfl (show 31 < 35 by decide) hdg kk
theorem r_get32 (X : mX Γ p m c cc nL s args RX10 A) (hw : mW Γ.1 vwCl A L (rM Γ L x) H) (hdg : decode cc pc = .ok (.getfield 260, 3)) (kk : W p l e R s m args below meth c H locs cells slots Q (F0 m (pc + 3) ls (.int (x.1 32) :: rest))) : W p l e R s m args below meth c H locs cells slots Q (F0 m pc ls (.ref (L (.inl 0)) :: rest)) := m_get X hw (i := .inl 0) (ci := 8) rfl rfl gX10 32 (by decide) fl_X10_260 rfl rfl hdg kk
theorem r_put32 {v : Int32} (X : mX Γ p m c cc nL s args RX10 A) (hw : mW Γ.1 vwCl A L (rM Γ L x) H) (hS : va_S A s.heap H locs) (hdg : decode cc pc = .ok (.putfield 260, 3)) (kk : ∀ (H1 : Heap) (locs1 : List Loc), mW Γ.1 vwCl A L (rM Γ L (sS x 32 v)) H1 → va_S A s.heap H1 locs1 → W p l e R s m args below meth c H1 locs1 cells slots Q (F0 m (pc + 3) ls rest)) : W p l e R s m args below meth c H locs cells slots Q (F0 m pc ls (.int v :: .ref (L (.inl 0)) :: rest)) := m_put X hw hS (i := .inl 0) (ci := 8) (ty := .int) rfl rfl gX10 tyX10 tyX10_ok nmX10 32 (by decide) fl_X10_260 rfl rfl rfl rfl rfl (show 32 < 35 by decide) hdg kk
theorem r_get33 (X : mX Γ p m c cc nL s args RX10 A) (hw : mW Γ.1 vwCl A L (rM Γ L x) H) (hdg : decode cc pc = .ok (.getfield 245, 3)) (kk : W p l e R s m args below meth c H locs cells slots Q (F0 m (pc + 3) ls (.int (x.1 33) :: rest))) : W p l e R s m args below meth c H locs cells slots Q (F0 m pc ls (.ref (L (.inl 0)) :: rest)) := m_get X hw (i := .inl 0) (ci := 8) rfl rfl gX10 33 (by decide) fl_X10_245 rfl rfl hdg kk
theorem r_put33 {v : Int32} (X : mX Γ p m c cc nL s args RX10 A) (hw : mW Γ.1 vwCl A L (rM Γ L x) H) (hS : va_S A s.heap H locs) (hn : narrow .boolean (.int v) = .int v) (hf : fits .boolean (.int v) = true) (hdg : decode cc pc = .ok (.putfield 245, 3)) (kk : ∀ (H1 : Heap) (locs1 : List Loc), mW Γ.1 vwCl A L (rM Γ L (sS x 33 v)) H1 → va_S A s.heap H1 locs1 → W p l e R s m args below meth c H1 locs1 cells slots Q (F0 m (pc + 3) ls rest)) : W p l e R s m args below meth c H locs cells slots Q (F0 m pc ls (.int v :: .ref (L (.inl 0)) :: rest)) := m_put X hw hS (i := .inl 0) (ci := 8) (ty := .boolean) rfl rfl gX10 tyX10 tyX10_ok nmX10 33 (by decide) fl_X10_245 rfl rfl rfl hn hf (show 33 < 35 by decide) hdg kk
theorem r_get34 (X : mX Γ p m c cc nL s args RX10 A) (hw : mW Γ.1 vwCl A L (rM Γ L x) H) (hdg : decode cc pc = .ok (.getfield 273, 3)) (kk : W p l e R s m args below meth c H locs cells slots Q (F0 m (pc + 3) ls (.int (x.1 34) :: rest))) : W p l e R s m args below meth c H locs cells slots Q (F0 m pc ls (.ref (L (.inl 0)) :: rest)) := m_get X hw (i := .inl 0) (ci := 8) rfl rfl gX10 34 (by decide) fl_X10_273 rfl rfl hdg kk
theorem r_put34 {v : Int32} (X : mX Γ p m c cc nL s args RX10 A) (hw : mW Γ.1 vwCl A L (rM Γ L x) H) (hS : va_S A s.heap H locs) (hdg : decode cc pc = .ok (.putfield 273, 3)) (kk : ∀ (H1 : Heap) (locs1 : List Loc), mW Γ.1 vwCl A L (rM Γ L (sS x 34 v)) H1 → va_S A s.heap H1 locs1 → W p l e R s m args below meth c H1 locs1 cells slots Q (F0 m (pc + 3) ls rest)) : W p l e R s m args below meth c H locs cells slots Q (F0 m pc ls (.int v :: .ref (L (.inl 0)) :: rest)) := m_put X hw hS (i := .inl 0) (ci := 8) (ty := .int) rfl rfl gX10 tyX10 tyX10_ok nmX10 34 (by decide) fl_X10_273 rfl rfl rfl rfl rfl (show 34 < 35 by decide) hdg kk
end RR
end
section
/-! HELPS: small numbers, compares of longs, arrays by Nat places -/
theorem nadd {x y : Int32} {a b : Nat} (h : x = nI a) (k : y = nI b) : x + y = nI (a + b) := by rw [h, k, nI_add]
theorem nmul {x y : Int32} {a b : Nat} (h : x = nI a) (k : y = nI b) : x * y = nI (a * b) := by rw [h, k, pk_mul]
theorem nsub {x y : Int32} {a b : Nat} (hb : b ≤ a) (h : x = nI a) (k : y = nI b) : x - y = nI (a - b) := by rw [h, k, pk_sub hb]
theorem nltT {x y : Int32} {a b : Nat} (h : x = nI a) (k : y = nI b) (ha : a < 2 ^ 31) (hb : b < 2 ^ 31) (c : x < y) : a < b := by rw [h, k] at c; exact (nI_ltI ha hb).mp c
theorem nltF {x y : Int32} {a b : Nat} (h : x = nI a) (k : y = nI b) (ha : a < 2 ^ 31) (hb : b < 2 ^ 31) (c : ¬ x < y) : ¬ a < b := by rw [h, k] at c; exact fun z => c ((nI_ltI ha hb).mpr z)
theorem ngeT {x y : Int32} {a b : Nat} (h : x = nI a) (k : y = nI b) (ha : a < 2 ^ 31) (hb : b < 2 ^ 31) (c : y ≤ x) : a ≥ b := by rw [h, k] at c; exact (nI_leI hb ha).mp c
theorem ngeF {x y : Int32} {a b : Nat} (h : x = nI a) (k : y = nI b) (ha : a < 2 ^ 31) (hb : b < 2 ^ 31) (c : ¬ y ≤ x) : ¬ a ≥ b := by rw [h, k] at c; exact fun z => c ((nI_leI hb ha).mpr z)
theorem ngtT {x y : Int32} {a b : Nat} (h : x = nI a) (k : y = nI b) (ha : a < 2 ^ 31) (hb : b < 2 ^ 31) (c : y < x) : a > b := by rw [h, k] at c; exact (nI_ltI hb ha).mp c
theorem ngtF {x y : Int32} {a b : Nat} (h : x = nI a) (k : y = nI b) (ha : a < 2 ^ 31) (hb : b < 2 ^ 31) (c : ¬ y < x) : ¬ a > b := by rw [h, k] at c; exact fun z => c ((nI_ltI hb ha).mpr z)
theorem nleT {x y : Int32} {a b : Nat} (h : x = nI a) (k : y = nI b) (ha : a < 2 ^ 31) (hb : b < 2 ^ 31) (c : x ≤ y) : a ≤ b := by rw [h, k] at c; exact (nI_leI ha hb).mp c
theorem nleF {x y : Int32} {a b : Nat} (h : x = nI a) (k : y = nI b) (ha : a < 2 ^ 31) (hb : b < 2 ^ 31) (c : ¬ x ≤ y) : ¬ a ≤ b := by rw [h, k] at c; exact fun z => c ((nI_leI ha hb).mpr z)
theorem neqT {x y : Int32} {a b : Nat} (h : x = nI a) (k : y = nI b) (ha : a < 2 ^ 31) (hb : b < 2 ^ 31) (c : x = y) : a = b := by rw [h, k] at c; exact (nI_eq ha hb).mp c
theorem neqF {x y : Int32} {a b : Nat} (h : x = nI a) (k : y = nI b) (ha : a < 2 ^ 31) (hb : b < 2 ^ 31) (c : ¬ x = y) : ¬ a = b := by rw [h, k] at c; exact fun z => c ((nI_eq ha hb).mpr z)
theorem nneT {x y : Int32} {a b : Nat} (h : x = nI a) (k : y = nI b) (ha : a < 2 ^ 31) (hb : b < 2 ^ 31) (c : ¬ x = y) : ¬ a = b := neqF h k ha hb c
theorem nneF {x y : Int32} {a b : Nat} (h : x = nI a) (k : y = nI b) (ha : a < 2 ^ 31) (hb : b < 2 ^ 31) (c : x = y) : a = b := neqT h k ha hb c
theorem bI_eq0 {b : Bool} : bI b = 0 ↔ b = false := by cases b <;> decide
theorem bI_t {b : Bool} (h : ¬ bI b = 0) : b = true := by cases b <;> simp_all [bI]
theorem bI_f {b : Bool} (h : bI b = 0) : b = false := by cases b <;> simp_all [bI]
theorem bI_inj {a b : Bool} : bI a = bI b ↔ a = b := by cases a <;> cases b <;> decide
theorem cmp_lt (x y : Int64) : lg_cmp x y < 0 ↔ x < y := by
  unfold lg_cmp
  by_cases h1 : x > y
  · rw [if_pos h1]
    exact ⟨fun h => absurd h (by decide), fun h => absurd (Int64.lt_iff_toInt_lt.mp h) (by have := Int64.lt_iff_toInt_lt.mp h1; omega)⟩
  · rw [if_neg h1]
    by_cases h2 : x = y
    · rw [if_pos h2]
      exact ⟨fun h => absurd h (by decide), fun h => absurd (Int64.lt_iff_toInt_lt.mp h) (by rw [h2]; omega)⟩
    · rw [if_neg h2]
      refine ⟨fun _ => Int64.lt_iff_toInt_lt.mpr ?_, fun _ => by decide⟩
      have e1 : ¬ y.toInt < x.toInt := fun z => h1 (Int64.lt_iff_toInt_lt.mpr z)
      have e2 : ¬ x.toInt = y.toInt := fun z => h2 (Int64.toInt_inj.mp z)
      omega
theorem cmp_gt (x y : Int64) : 0 < lg_cmp x y ↔ y < x := by
  unfold lg_cmp
  by_cases h1 : x > y
  · rw [if_pos h1]
    exact ⟨fun _ => h1, fun _ => by decide⟩
  · rw [if_neg h1]
    refine ⟨fun h => ?_, fun h => absurd h h1⟩
    by_cases h2 : x = y
    · rw [if_pos h2] at h; exact absurd h (by decide)
    · rw [if_neg h2] at h; exact absurd h (by decide)
theorem cmp_eq (x y : Int64) : lg_cmp x y = 0 ↔ x = y := by
  unfold lg_cmp
  by_cases h1 : x > y
  · rw [if_pos h1]
    refine ⟨fun h => absurd h (by decide), fun h => ?_⟩
    subst h
    exact absurd (Int64.lt_iff_toInt_lt.mp h1) (by omega)
  · rw [if_neg h1]
    by_cases h2 : x = y
    · rw [if_pos h2]; exact ⟨fun _ => h2, fun _ => rfl⟩
    · rw [if_neg h2]; exact ⟨fun h => absurd h (by decide), fun h => absurd h h2⟩
section ML
variable {p : Program} {l : Launch} {e : Env} {R : Room} {s : State} {m : MethodId} {args : Array Value} {below : List Frame} {meth : Method} {c : Code} {H : Heap} {locs : List Loc} {cells slots : Nat} {Q : State → Prop}
variable {cc : ByteArray} {pc nL : Nat} {ls : Array Slot} {rest : List Value}
theorem m_lcmp_lt {x y : Int64} {off : Int} {tgt : Nat} (hx : p.tables.exec = Jvm.exec) (hb : c.code = cc) (d1 : decode cc pc = .ok (.lcmp, 1)) (d2 : decode cc (pc + 1) = .ok (.ifCond .lt off, 3)) (ht : ((pc + 1 : Nat) : Int) + off = (tgt : Int)) (kt : x < y → W p l e R s m args below meth c H locs cells slots Q (F0 m tgt ls rest)) (kf : ¬ x < y → W p l e R s m args below meth c H locs cells slots Q (F0 m (pc + 1 + 3) ls rest)) : W p l e R s m args below meth c H locs cells slots Q (F0 m pc ls (.long y :: .long x :: rest)) :=
  W.lcmp hx hb d1 (lv_if_lt hx hb d2 ht (fun h => kt ((cmp_lt x y).mp h)) (fun h => kf (fun z => h ((cmp_lt x y).mpr z))))
theorem m_lcmp_ge {x y : Int64} {off : Int} {tgt : Nat} (hx : p.tables.exec = Jvm.exec) (hb : c.code = cc) (d1 : decode cc pc = .ok (.lcmp, 1)) (d2 : decode cc (pc + 1) = .ok (.ifCond .ge off, 3)) (ht : ((pc + 1 : Nat) : Int) + off = (tgt : Int)) (kt : ¬ x < y → W p l e R s m args below meth c H locs cells slots Q (F0 m tgt ls rest)) (kf : ¬ ¬ x < y → W p l e R s m args below meth c H locs cells slots Q (F0 m (pc + 1 + 3) ls rest)) : W p l e R s m args below meth c H locs cells slots Q (F0 m pc ls (.long y :: .long x :: rest)) :=
  W.lcmp hx hb d1 (lv_if_ge hx hb d2 ht (fun h => kt (fun z => absurd (Int32.lt_iff_toInt_lt.mp ((cmp_lt x y).mpr z)) (by have := Int32.le_iff_toInt_le.mp h; omega))) (fun h => kf (fun z => h (Int32.not_lt.mp (fun q => z ((cmp_lt x y).mp q))))))
theorem m_lcmp_gt {x y : Int64} {off : Int} {tgt : Nat} (hx : p.tables.exec = Jvm.exec) (hb : c.code = cc) (d1 : decode cc pc = .ok (.lcmp, 1)) (d2 : decode cc (pc + 1) = .ok (.ifCond .gt off, 3)) (ht : ((pc + 1 : Nat) : Int) + off = (tgt : Int)) (kt : y < x → W p l e R s m args below meth c H locs cells slots Q (F0 m tgt ls rest)) (kf : ¬ y < x → W p l e R s m args below meth c H locs cells slots Q (F0 m (pc + 1 + 3) ls rest)) : W p l e R s m args below meth c H locs cells slots Q (F0 m pc ls (.long y :: .long x :: rest)) :=
  W.lcmp hx hb d1 (lv_if_gt hx hb d2 ht (fun h => kt ((cmp_gt x y).mp h)) (fun h => kf (fun z => h ((cmp_gt x y).mpr z))))
theorem m_lcmp_le {x y : Int64} {off : Int} {tgt : Nat} (hx : p.tables.exec = Jvm.exec) (hb : c.code = cc) (d1 : decode cc pc = .ok (.lcmp, 1)) (d2 : decode cc (pc + 1) = .ok (.ifCond .le off, 3)) (ht : ((pc + 1 : Nat) : Int) + off = (tgt : Int)) (kt : ¬ y < x → W p l e R s m args below meth c H locs cells slots Q (F0 m tgt ls rest)) (kf : ¬ ¬ y < x → W p l e R s m args below meth c H locs cells slots Q (F0 m (pc + 1 + 3) ls rest)) : W p l e R s m args below meth c H locs cells slots Q (F0 m pc ls (.long y :: .long x :: rest)) :=
  W.lcmp hx hb d1 (lv_if_le hx hb d2 ht (fun h => kt (fun z => absurd (Int32.lt_iff_toInt_lt.mp ((cmp_gt x y).mpr z)) (by have := Int32.le_iff_toInt_le.mp h; omega))) (fun h => kf (fun z => h (Int32.not_lt.mp (fun q => z ((cmp_gt x y).mp q))))))
theorem m_lcmp_eq {x y : Int64} {off : Int} {tgt : Nat} (hx : p.tables.exec = Jvm.exec) (hb : c.code = cc) (d1 : decode cc pc = .ok (.lcmp, 1)) (d2 : decode cc (pc + 1) = .ok (.ifCond .eq off, 3)) (ht : ((pc + 1 : Nat) : Int) + off = (tgt : Int)) (kt : x = y → W p l e R s m args below meth c H locs cells slots Q (F0 m tgt ls rest)) (kf : ¬ x = y → W p l e R s m args below meth c H locs cells slots Q (F0 m (pc + 1 + 3) ls rest)) : W p l e R s m args below meth c H locs cells slots Q (F0 m pc ls (.long y :: .long x :: rest)) :=
  W.lcmp hx hb d1 (lv_if_eq hx hb d2 ht (fun h => kt ((cmp_eq x y).mp h)) (fun h => kf (fun z => h ((cmp_eq x y).mpr z))))
theorem m_lcmp_ne {x y : Int64} {off : Int} {tgt : Nat} (hx : p.tables.exec = Jvm.exec) (hb : c.code = cc) (d1 : decode cc pc = .ok (.lcmp, 1)) (d2 : decode cc (pc + 1) = .ok (.ifCond .ne off, 3)) (ht : ((pc + 1 : Nat) : Int) + off = (tgt : Int)) (kt : ¬ x = y → W p l e R s m args below meth c H locs cells slots Q (F0 m tgt ls rest)) (kf : x = y → W p l e R s m args below meth c H locs cells slots Q (F0 m (pc + 1 + 3) ls rest)) : W p l e R s m args below meth c H locs cells slots Q (F0 m pc ls (.long y :: .long x :: rest)) :=
  W.lcmp hx hb d1 (lv_if_ne hx hb d2 ht (fun h => kt (fun z => h ((cmp_eq x y).mpr z))) (fun h => kf ((cmp_eq x y).mp h)))
end ML
section RN
variable {p : Program} {l : Launch} {e : Env} {R : Room} {s : State} {m : MethodId} {args : Array Value} {below : List Frame} {meth : Method} {c : Code} {H : Heap} {locs : List Loc} {cells slots : Nat} {Q : State → Prop}
variable {cc : ByteArray} {pc nL : Nat} {ls : Array Slot} {rest : List Value} {Γ : mG} {A : Nat → Prop} {L : mI → Nat} {x : RS}
theorem r_ald1N {i : Int32} {n : Nat} (X : mX Γ p m c cc nL s args RX10 A) (hw : mW Γ.1 vwCl A L (rM Γ L x) H) (hi : i = nI n) (hn : n < 8) (hdg : decode cc pc = .ok (.iaload, 1)) (kk : W p l e R s m args below meth c H locs cells slots Q (F0 m (pc + 1) ls (.int (x.2.1 1 n) :: rest))) : W p l e R s m args below meth c H locs cells slots Q (F0 m pc ls (.int i :: .ref (L (.inr (0, 1, 0))) :: rest)) := by
  subst hi
  refine r_ald1 X hw (vp_in_nI hn (by decide)) hdg ?_
  rw [nI_clamp (by omega)]
  exact kk
theorem r_ast1N {i : Int32} {v : Int32} {n : Nat} (X : mX Γ p m c cc nL s args RX10 A) (hw : mW Γ.1 vwCl A L (rM Γ L x) H) (hS : va_S A s.heap H locs) (hi : i = nI n) (hn : n < 8) (hdg : decode cc pc = .ok (.iastore, 1)) (kk : ∀ (H1 : Heap) (locs1 : List Loc), mW Γ.1 vwCl A L (rM Γ L (sA x 1 n v)) H1 → va_S A s.heap H1 locs1 → W p l e R s m args below meth c H1 locs1 cells slots Q (F0 m (pc + 1) ls rest)) : W p l e R s m args below meth c H locs cells slots Q (F0 m pc ls (.int v :: .int i :: .ref (L (.inr (0, 1, 0))) :: rest)) := by
  subst hi
  refine r_ast1 X hw hS (vp_in_nI hn (by decide)) hdg ?_
  rw [nI_clamp (by omega)]
  exact kk
theorem r_ald2N {i : Int32} {n : Nat} (X : mX Γ p m c cc nL s args RX10 A) (hw : mW Γ.1 vwCl A L (rM Γ L x) H) (hi : i = nI n) (hn : n < 8) (hdg : decode cc pc = .ok (.iaload, 1)) (kk : W p l e R s m args below meth c H locs cells slots Q (F0 m (pc + 1) ls (.int (x.2.1 2 n) :: rest))) : W p l e R s m args below meth c H locs cells slots Q (F0 m pc ls (.int i :: .ref (L (.inr (0, 2, 0))) :: rest)) := by
  subst hi
  refine r_ald2 X hw (vp_in_nI hn (by decide)) hdg ?_
  rw [nI_clamp (by omega)]
  exact kk
theorem r_ast2N {i : Int32} {v : Int32} {n : Nat} (X : mX Γ p m c cc nL s args RX10 A) (hw : mW Γ.1 vwCl A L (rM Γ L x) H) (hS : va_S A s.heap H locs) (hi : i = nI n) (hn : n < 8) (hdg : decode cc pc = .ok (.iastore, 1)) (kk : ∀ (H1 : Heap) (locs1 : List Loc), mW Γ.1 vwCl A L (rM Γ L (sA x 2 n v)) H1 → va_S A s.heap H1 locs1 → W p l e R s m args below meth c H1 locs1 cells slots Q (F0 m (pc + 1) ls rest)) : W p l e R s m args below meth c H locs cells slots Q (F0 m pc ls (.int v :: .int i :: .ref (L (.inr (0, 2, 0))) :: rest)) := by
  subst hi
  refine r_ast2 X hw hS (vp_in_nI hn (by decide)) hdg ?_
  rw [nI_clamp (by omega)]
  exact kk
theorem r_ald3N {i : Int32} {n : Nat} (X : mX Γ p m c cc nL s args RX10 A) (hw : mW Γ.1 vwCl A L (rM Γ L x) H) (hi : i = nI n) (hn : n < 320) (hdg : decode cc pc = .ok (.iaload, 1)) (kk : W p l e R s m args below meth c H locs cells slots Q (F0 m (pc + 1) ls (.int (x.2.1 3 n) :: rest))) : W p l e R s m args below meth c H locs cells slots Q (F0 m pc ls (.int i :: .ref (L (.inr (0, 3, 0))) :: rest)) := by
  subst hi
  refine r_ald3 X hw (vp_in_nI hn (by decide)) hdg ?_
  rw [nI_clamp (by omega)]
  exact kk
theorem r_ast3N {i : Int32} {v : Int32} {n : Nat} (X : mX Γ p m c cc nL s args RX10 A) (hw : mW Γ.1 vwCl A L (rM Γ L x) H) (hS : va_S A s.heap H locs) (hi : i = nI n) (hn : n < 320) (hdg : decode cc pc = .ok (.iastore, 1)) (kk : ∀ (H1 : Heap) (locs1 : List Loc), mW Γ.1 vwCl A L (rM Γ L (sA x 3 n v)) H1 → va_S A s.heap H1 locs1 → W p l e R s m args below meth c H1 locs1 cells slots Q (F0 m (pc + 1) ls rest)) : W p l e R s m args below meth c H locs cells slots Q (F0 m pc ls (.int v :: .int i :: .ref (L (.inr (0, 3, 0))) :: rest)) := by
  subst hi
  refine r_ast3 X hw hS (vp_in_nI hn (by decide)) hdg ?_
  rw [nI_clamp (by omega)]
  exact kk
theorem r_ald4N {i : Int32} {n : Nat} (X : mX Γ p m c cc nL s args RX10 A) (hw : mW Γ.1 vwCl A L (rM Γ L x) H) (hi : i = nI n) (hn : n < 320) (hdg : decode cc pc = .ok (.laload, 1)) (kk : W p l e R s m args below meth c H locs cells slots Q (F0 m (pc + 1) ls (.long (x.2.2 4 n) :: rest))) : W p l e R s m args below meth c H locs cells slots Q (F0 m pc ls (.int i :: .ref (L (.inr (0, 4, 0))) :: rest)) := by
  subst hi
  refine r_ald4 X hw (vp_in_nI hn (by decide)) hdg ?_
  rw [nI_clamp (by omega)]
  exact kk
theorem r_ast4N {i : Int32} {v : Int64} {n : Nat} (X : mX Γ p m c cc nL s args RX10 A) (hw : mW Γ.1 vwCl A L (rM Γ L x) H) (hS : va_S A s.heap H locs) (hi : i = nI n) (hn : n < 320) (hdg : decode cc pc = .ok (.lastore, 1)) (kk : ∀ (H1 : Heap) (locs1 : List Loc), mW Γ.1 vwCl A L (rM Γ L (sJ x 4 n v)) H1 → va_S A s.heap H1 locs1 → W p l e R s m args below meth c H1 locs1 cells slots Q (F0 m (pc + 1) ls rest)) : W p l e R s m args below meth c H locs cells slots Q (F0 m pc ls (.long v :: .int i :: .ref (L (.inr (0, 4, 0))) :: rest)) := by
  subst hi
  refine r_ast4 X hw hS (vp_in_nI hn (by decide)) hdg ?_
  rw [nI_clamp (by omega)]
  exact kk
theorem r_ald5N {i : Int32} {n : Nat} (X : mX Γ p m c cc nL s args RX10 A) (hw : mW Γ.1 vwCl A L (rM Γ L x) H) (hi : i = nI n) (hn : n < 8) (hdg : decode cc pc = .ok (.iaload, 1)) (kk : W p l e R s m args below meth c H locs cells slots Q (F0 m (pc + 1) ls (.int (x.2.1 5 n) :: rest))) : W p l e R s m args below meth c H locs cells slots Q (F0 m pc ls (.int i :: .ref (L (.inr (0, 5, 0))) :: rest)) := by
  subst hi
  refine r_ald5 X hw (vp_in_nI hn (by decide)) hdg ?_
  rw [nI_clamp (by omega)]
  exact kk
theorem r_ast5N {i : Int32} {v : Int32} {n : Nat} (X : mX Γ p m c cc nL s args RX10 A) (hw : mW Γ.1 vwCl A L (rM Γ L x) H) (hS : va_S A s.heap H locs) (hi : i = nI n) (hn : n < 8) (hdg : decode cc pc = .ok (.iastore, 1)) (kk : ∀ (H1 : Heap) (locs1 : List Loc), mW Γ.1 vwCl A L (rM Γ L (sA x 5 n v)) H1 → va_S A s.heap H1 locs1 → W p l e R s m args below meth c H1 locs1 cells slots Q (F0 m (pc + 1) ls rest)) : W p l e R s m args below meth c H locs cells slots Q (F0 m pc ls (.int v :: .int i :: .ref (L (.inr (0, 5, 0))) :: rest)) := by
  subst hi
  refine r_ast5 X hw hS (vp_in_nI hn (by decide)) hdg ?_
  rw [nI_clamp (by omega)]
  exact kk
theorem r_ald6N {i : Int32} {n : Nat} (X : mX Γ p m c cc nL s args RX10 A) (hw : mW Γ.1 vwCl A L (rM Γ L x) H) (hi : i = nI n) (hn : n < 192) (hdg : decode cc pc = .ok (.iaload, 1)) (kk : W p l e R s m args below meth c H locs cells slots Q (F0 m (pc + 1) ls (.int (x.2.1 6 n) :: rest))) : W p l e R s m args below meth c H locs cells slots Q (F0 m pc ls (.int i :: .ref (L (.inr (0, 6, 0))) :: rest)) := by
  subst hi
  refine r_ald6 X hw (vp_in_nI hn (by decide)) hdg ?_
  rw [nI_clamp (by omega)]
  exact kk
theorem r_ast6N {i : Int32} {v : Int32} {n : Nat} (X : mX Γ p m c cc nL s args RX10 A) (hw : mW Γ.1 vwCl A L (rM Γ L x) H) (hS : va_S A s.heap H locs) (hi : i = nI n) (hn : n < 192) (hdg : decode cc pc = .ok (.iastore, 1)) (kk : ∀ (H1 : Heap) (locs1 : List Loc), mW Γ.1 vwCl A L (rM Γ L (sA x 6 n v)) H1 → va_S A s.heap H1 locs1 → W p l e R s m args below meth c H1 locs1 cells slots Q (F0 m (pc + 1) ls rest)) : W p l e R s m args below meth c H locs cells slots Q (F0 m pc ls (.int v :: .int i :: .ref (L (.inr (0, 6, 0))) :: rest)) := by
  subst hi
  refine r_ast6 X hw hS (vp_in_nI hn (by decide)) hdg ?_
  rw [nI_clamp (by omega)]
  exact kk
theorem r_ald7N {i : Int32} {n : Nat} (X : mX Γ p m c cc nL s args RX10 A) (hw : mW Γ.1 vwCl A L (rM Γ L x) H) (hi : i = nI n) (hn : n < 320) (hdg : decode cc pc = .ok (.iaload, 1)) (kk : W p l e R s m args below meth c H locs cells slots Q (F0 m (pc + 1) ls (.int (x.2.1 7 n) :: rest))) : W p l e R s m args below meth c H locs cells slots Q (F0 m pc ls (.int i :: .ref (L (.inr (0, 7, 0))) :: rest)) := by
  subst hi
  refine r_ald7 X hw (vp_in_nI hn (by decide)) hdg ?_
  rw [nI_clamp (by omega)]
  exact kk
theorem r_ast7N {i : Int32} {v : Int32} {n : Nat} (X : mX Γ p m c cc nL s args RX10 A) (hw : mW Γ.1 vwCl A L (rM Γ L x) H) (hS : va_S A s.heap H locs) (hi : i = nI n) (hn : n < 320) (hdg : decode cc pc = .ok (.iastore, 1)) (kk : ∀ (H1 : Heap) (locs1 : List Loc), mW Γ.1 vwCl A L (rM Γ L (sA x 7 n v)) H1 → va_S A s.heap H1 locs1 → W p l e R s m args below meth c H1 locs1 cells slots Q (F0 m (pc + 1) ls rest)) : W p l e R s m args below meth c H locs cells slots Q (F0 m pc ls (.int v :: .int i :: .ref (L (.inr (0, 7, 0))) :: rest)) := by
  subst hi
  refine r_ast7 X hw hS (vp_in_nI hn (by decide)) hdg ?_
  rw [nI_clamp (by omega)]
  exact kk
theorem r_ald8N {i : Int32} {n : Nat} (X : mX Γ p m c cc nL s args RX10 A) (hw : mW Γ.1 vwCl A L (rM Γ L x) H) (hi : i = nI n) (hn : n < 5120) (hdg : decode cc pc = .ok (.iaload, 1)) (kk : W p l e R s m args below meth c H locs cells slots Q (F0 m (pc + 1) ls (.int (x.2.1 8 n) :: rest))) : W p l e R s m args below meth c H locs cells slots Q (F0 m pc ls (.int i :: .ref (L (.inr (0, 8, 0))) :: rest)) := by
  subst hi
  refine r_ald8 X hw (vp_in_nI hn (by decide)) hdg ?_
  rw [nI_clamp (by omega)]
  exact kk
theorem r_ast8N {i : Int32} {v : Int32} {n : Nat} (X : mX Γ p m c cc nL s args RX10 A) (hw : mW Γ.1 vwCl A L (rM Γ L x) H) (hS : va_S A s.heap H locs) (hi : i = nI n) (hn : n < 5120) (hdg : decode cc pc = .ok (.iastore, 1)) (kk : ∀ (H1 : Heap) (locs1 : List Loc), mW Γ.1 vwCl A L (rM Γ L (sA x 8 n v)) H1 → va_S A s.heap H1 locs1 → W p l e R s m args below meth c H1 locs1 cells slots Q (F0 m (pc + 1) ls rest)) : W p l e R s m args below meth c H locs cells slots Q (F0 m pc ls (.int v :: .int i :: .ref (L (.inr (0, 8, 0))) :: rest)) := by
  subst hi
  refine r_ast8 X hw hS (vp_in_nI hn (by decide)) hdg ?_
  rw [nI_clamp (by omega)]
  exact kk
theorem r_ald9N {i : Int32} {n : Nat} (X : mX Γ p m c cc nL s args RX10 A) (hw : mW Γ.1 vwCl A L (rM Γ L x) H) (hi : i = nI n) (hn : n < 8) (hdg : decode cc pc = .ok (.baload, 1)) (kk : W p l e R s m args below meth c H locs cells slots Q (F0 m (pc + 1) ls (.int (x.2.1 9 n) :: rest))) : W p l e R s m args below meth c H locs cells slots Q (F0 m pc ls (.int i :: .ref (L (.inr (0, 9, 0))) :: rest)) := by
  subst hi
  refine r_ald9 X hw (vp_in_nI hn (by decide)) hdg ?_
  rw [nI_clamp (by omega)]
  exact kk
theorem r_ast9N {i : Int32} {v : Int32} {n : Nat} (X : mX Γ p m c cc nL s args RX10 A) (hw : mW Γ.1 vwCl A L (rM Γ L x) H) (hS : va_S A s.heap H locs) (hi : i = nI n) (hn : n < 8) (hdg : decode cc pc = .ok (.bastore, 1)) (kk : ∀ (H1 : Heap) (locs1 : List Loc), mW Γ.1 vwCl A L (rM Γ L (sA x 9 n (vp_nar .boolean v))) H1 → va_S A s.heap H1 locs1 → W p l e R s m args below meth c H1 locs1 cells slots Q (F0 m (pc + 1) ls rest)) : W p l e R s m args below meth c H locs cells slots Q (F0 m pc ls (.int v :: .int i :: .ref (L (.inr (0, 9, 0))) :: rest)) := by
  subst hi
  refine r_ast9 X hw hS (vp_in_nI hn (by decide)) hdg ?_
  rw [nI_clamp (by omega)]
  exact kk
theorem r_ald11N {i : Int32} {n : Nat} (X : mX Γ p m c cc nL s args RX10 A) (hw : mW Γ.1 vwCl A L (rM Γ L x) H) (hi : i = nI n) (hn : n < 40) (hdg : decode cc pc = .ok (.iaload, 1)) (kk : W p l e R s m args below meth c H locs cells slots Q (F0 m (pc + 1) ls (.int (x.2.1 11 n) :: rest))) : W p l e R s m args below meth c H locs cells slots Q (F0 m pc ls (.int i :: .ref (L (.inr (0, 11, 0))) :: rest)) := by
  subst hi
  refine r_ald11 X hw (vp_in_nI hn (by decide)) hdg ?_
  rw [nI_clamp (by omega)]
  exact kk
theorem r_ast11N {i : Int32} {v : Int32} {n : Nat} (X : mX Γ p m c cc nL s args RX10 A) (hw : mW Γ.1 vwCl A L (rM Γ L x) H) (hS : va_S A s.heap H locs) (hi : i = nI n) (hn : n < 40) (hdg : decode cc pc = .ok (.iastore, 1)) (kk : ∀ (H1 : Heap) (locs1 : List Loc), mW Γ.1 vwCl A L (rM Γ L (sA x 11 n v)) H1 → va_S A s.heap H1 locs1 → W p l e R s m args below meth c H1 locs1 cells slots Q (F0 m (pc + 1) ls rest)) : W p l e R s m args below meth c H locs cells slots Q (F0 m pc ls (.int v :: .int i :: .ref (L (.inr (0, 11, 0))) :: rest)) := by
  subst hi
  refine r_ast11 X hw hS (vp_in_nI hn (by decide)) hdg ?_
  rw [nI_clamp (by omega)]
  exact kk
theorem r_ald12N {i : Int32} {n : Nat} (X : mX Γ p m c cc nL s args RX10 A) (hw : mW Γ.1 vwCl A L (rM Γ L x) H) (hi : i = nI n) (hn : n < 640) (hdg : decode cc pc = .ok (.iaload, 1)) (kk : W p l e R s m args below meth c H locs cells slots Q (F0 m (pc + 1) ls (.int (x.2.1 12 n) :: rest))) : W p l e R s m args below meth c H locs cells slots Q (F0 m pc ls (.int i :: .ref (L (.inr (0, 12, 0))) :: rest)) := by
  subst hi
  refine r_ald12 X hw (vp_in_nI hn (by decide)) hdg ?_
  rw [nI_clamp (by omega)]
  exact kk
theorem r_ast12N {i : Int32} {v : Int32} {n : Nat} (X : mX Γ p m c cc nL s args RX10 A) (hw : mW Γ.1 vwCl A L (rM Γ L x) H) (hS : va_S A s.heap H locs) (hi : i = nI n) (hn : n < 640) (hdg : decode cc pc = .ok (.iastore, 1)) (kk : ∀ (H1 : Heap) (locs1 : List Loc), mW Γ.1 vwCl A L (rM Γ L (sA x 12 n v)) H1 → va_S A s.heap H1 locs1 → W p l e R s m args below meth c H1 locs1 cells slots Q (F0 m (pc + 1) ls rest)) : W p l e R s m args below meth c H locs cells slots Q (F0 m pc ls (.int v :: .int i :: .ref (L (.inr (0, 12, 0))) :: rest)) := by
  subst hi
  refine r_ast12 X hw hS (vp_in_nI hn (by decide)) hdg ?_
  rw [nI_clamp (by omega)]
  exact kk
theorem r_ald14N {i : Int32} {n : Nat} (X : mX Γ p m c cc nL s args RX10 A) (hw : mW Γ.1 vwCl A L (rM Γ L x) H) (hi : i = nI n) (hn : n < 16) (hdg : decode cc pc = .ok (.iaload, 1)) (kk : W p l e R s m args below meth c H locs cells slots Q (F0 m (pc + 1) ls (.int (x.2.1 14 n) :: rest))) : W p l e R s m args below meth c H locs cells slots Q (F0 m pc ls (.int i :: .ref (L (.inr (0, 14, 0))) :: rest)) := by
  subst hi
  refine r_ald14 X hw (vp_in_nI hn (by decide)) hdg ?_
  rw [nI_clamp (by omega)]
  exact kk
theorem r_ast14N {i : Int32} {v : Int32} {n : Nat} (X : mX Γ p m c cc nL s args RX10 A) (hw : mW Γ.1 vwCl A L (rM Γ L x) H) (hS : va_S A s.heap H locs) (hi : i = nI n) (hn : n < 16) (hdg : decode cc pc = .ok (.iastore, 1)) (kk : ∀ (H1 : Heap) (locs1 : List Loc), mW Γ.1 vwCl A L (rM Γ L (sA x 14 n v)) H1 → va_S A s.heap H1 locs1 → W p l e R s m args below meth c H1 locs1 cells slots Q (F0 m (pc + 1) ls rest)) : W p l e R s m args below meth c H locs cells slots Q (F0 m pc ls (.int v :: .int i :: .ref (L (.inr (0, 14, 0))) :: rest)) := by
  subst hi
  refine r_ast14 X hw hS (vp_in_nI hn (by decide)) hdg ?_
  rw [nI_clamp (by omega)]
  exact kk
theorem r_ald17N {i : Int32} {n : Nat} (X : mX Γ p m c cc nL s args RX10 A) (hw : mW Γ.1 vwCl A L (rM Γ L x) H) (hi : i = nI n) (hn : n < 8) (hdg : decode cc pc = .ok (.iaload, 1)) (kk : W p l e R s m args below meth c H locs cells slots Q (F0 m (pc + 1) ls (.int (x.2.1 17 n) :: rest))) : W p l e R s m args below meth c H locs cells slots Q (F0 m pc ls (.int i :: .ref (L (.inr (0, 17, 0))) :: rest)) := by
  subst hi
  refine r_ald17 X hw (vp_in_nI hn (by decide)) hdg ?_
  rw [nI_clamp (by omega)]
  exact kk
theorem r_ast17N {i : Int32} {v : Int32} {n : Nat} (X : mX Γ p m c cc nL s args RX10 A) (hw : mW Γ.1 vwCl A L (rM Γ L x) H) (hS : va_S A s.heap H locs) (hi : i = nI n) (hn : n < 8) (hdg : decode cc pc = .ok (.iastore, 1)) (kk : ∀ (H1 : Heap) (locs1 : List Loc), mW Γ.1 vwCl A L (rM Γ L (sA x 17 n v)) H1 → va_S A s.heap H1 locs1 → W p l e R s m args below meth c H1 locs1 cells slots Q (F0 m (pc + 1) ls rest)) : W p l e R s m args below meth c H locs cells slots Q (F0 m pc ls (.int v :: .int i :: .ref (L (.inr (0, 17, 0))) :: rest)) := by
  subst hi
  refine r_ast17 X hw hS (vp_in_nI hn (by decide)) hdg ?_
  rw [nI_clamp (by omega)]
  exact kk
theorem r_ald18N {i : Int32} {n : Nat} (X : mX Γ p m c cc nL s args RX10 A) (hw : mW Γ.1 vwCl A L (rM Γ L x) H) (hi : i = nI n) (hn : n < 128) (hdg : decode cc pc = .ok (.laload, 1)) (kk : W p l e R s m args below meth c H locs cells slots Q (F0 m (pc + 1) ls (.long (x.2.2 18 n) :: rest))) : W p l e R s m args below meth c H locs cells slots Q (F0 m pc ls (.int i :: .ref (L (.inr (0, 18, 0))) :: rest)) := by
  subst hi
  refine r_ald18 X hw (vp_in_nI hn (by decide)) hdg ?_
  rw [nI_clamp (by omega)]
  exact kk
theorem r_ast18N {i : Int32} {v : Int64} {n : Nat} (X : mX Γ p m c cc nL s args RX10 A) (hw : mW Γ.1 vwCl A L (rM Γ L x) H) (hS : va_S A s.heap H locs) (hi : i = nI n) (hn : n < 128) (hdg : decode cc pc = .ok (.lastore, 1)) (kk : ∀ (H1 : Heap) (locs1 : List Loc), mW Γ.1 vwCl A L (rM Γ L (sJ x 18 n v)) H1 → va_S A s.heap H1 locs1 → W p l e R s m args below meth c H1 locs1 cells slots Q (F0 m (pc + 1) ls rest)) : W p l e R s m args below meth c H locs cells slots Q (F0 m pc ls (.long v :: .int i :: .ref (L (.inr (0, 18, 0))) :: rest)) := by
  subst hi
  refine r_ast18 X hw hS (vp_in_nI hn (by decide)) hdg ?_
  rw [nI_clamp (by omega)]
  exact kk
theorem r_ald19N {i : Int32} {n : Nat} (X : mX Γ p m c cc nL s args RX10 A) (hw : mW Γ.1 vwCl A L (rM Γ L x) H) (hi : i = nI n) (hn : n < 8) (hdg : decode cc pc = .ok (.iaload, 1)) (kk : W p l e R s m args below meth c H locs cells slots Q (F0 m (pc + 1) ls (.int (x.2.1 19 n) :: rest))) : W p l e R s m args below meth c H locs cells slots Q (F0 m pc ls (.int i :: .ref (L (.inr (0, 19, 0))) :: rest)) := by
  subst hi
  refine r_ald19 X hw (vp_in_nI hn (by decide)) hdg ?_
  rw [nI_clamp (by omega)]
  exact kk
theorem r_ast19N {i : Int32} {v : Int32} {n : Nat} (X : mX Γ p m c cc nL s args RX10 A) (hw : mW Γ.1 vwCl A L (rM Γ L x) H) (hS : va_S A s.heap H locs) (hi : i = nI n) (hn : n < 8) (hdg : decode cc pc = .ok (.iastore, 1)) (kk : ∀ (H1 : Heap) (locs1 : List Loc), mW Γ.1 vwCl A L (rM Γ L (sA x 19 n v)) H1 → va_S A s.heap H1 locs1 → W p l e R s m args below meth c H1 locs1 cells slots Q (F0 m (pc + 1) ls rest)) : W p l e R s m args below meth c H locs cells slots Q (F0 m pc ls (.int v :: .int i :: .ref (L (.inr (0, 19, 0))) :: rest)) := by
  subst hi
  refine r_ast19 X hw hS (vp_in_nI hn (by decide)) hdg ?_
  rw [nI_clamp (by omega)]
  exact kk
theorem r_ald20N {i : Int32} {n : Nat} (X : mX Γ p m c cc nL s args RX10 A) (hw : mW Γ.1 vwCl A L (rM Γ L x) H) (hi : i = nI n) (hn : n < 8) (hdg : decode cc pc = .ok (.iaload, 1)) (kk : W p l e R s m args below meth c H locs cells slots Q (F0 m (pc + 1) ls (.int (x.2.1 20 n) :: rest))) : W p l e R s m args below meth c H locs cells slots Q (F0 m pc ls (.int i :: .ref (L (.inr (0, 20, 0))) :: rest)) := by
  subst hi
  refine r_ald20 X hw (vp_in_nI hn (by decide)) hdg ?_
  rw [nI_clamp (by omega)]
  exact kk
theorem r_ast20N {i : Int32} {v : Int32} {n : Nat} (X : mX Γ p m c cc nL s args RX10 A) (hw : mW Γ.1 vwCl A L (rM Γ L x) H) (hS : va_S A s.heap H locs) (hi : i = nI n) (hn : n < 8) (hdg : decode cc pc = .ok (.iastore, 1)) (kk : ∀ (H1 : Heap) (locs1 : List Loc), mW Γ.1 vwCl A L (rM Γ L (sA x 20 n v)) H1 → va_S A s.heap H1 locs1 → W p l e R s m args below meth c H1 locs1 cells slots Q (F0 m (pc + 1) ls rest)) : W p l e R s m args below meth c H locs cells slots Q (F0 m pc ls (.int v :: .int i :: .ref (L (.inr (0, 20, 0))) :: rest)) := by
  subst hi
  refine r_ast20 X hw hS (vp_in_nI hn (by decide)) hdg ?_
  rw [nI_clamp (by omega)]
  exact kk
theorem r_ald21N {i : Int32} {n : Nat} (X : mX Γ p m c cc nL s args RX10 A) (hw : mW Γ.1 vwCl A L (rM Γ L x) H) (hi : i = nI n) (hn : n < 8) (hdg : decode cc pc = .ok (.iaload, 1)) (kk : W p l e R s m args below meth c H locs cells slots Q (F0 m (pc + 1) ls (.int (x.2.1 21 n) :: rest))) : W p l e R s m args below meth c H locs cells slots Q (F0 m pc ls (.int i :: .ref (L (.inr (0, 21, 0))) :: rest)) := by
  subst hi
  refine r_ald21 X hw (vp_in_nI hn (by decide)) hdg ?_
  rw [nI_clamp (by omega)]
  exact kk
theorem r_ast21N {i : Int32} {v : Int32} {n : Nat} (X : mX Γ p m c cc nL s args RX10 A) (hw : mW Γ.1 vwCl A L (rM Γ L x) H) (hS : va_S A s.heap H locs) (hi : i = nI n) (hn : n < 8) (hdg : decode cc pc = .ok (.iastore, 1)) (kk : ∀ (H1 : Heap) (locs1 : List Loc), mW Γ.1 vwCl A L (rM Γ L (sA x 21 n v)) H1 → va_S A s.heap H1 locs1 → W p l e R s m args below meth c H1 locs1 cells slots Q (F0 m (pc + 1) ls rest)) : W p l e R s m args below meth c H locs cells slots Q (F0 m pc ls (.int v :: .int i :: .ref (L (.inr (0, 21, 0))) :: rest)) := by
  subst hi
  refine r_ast21 X hw hS (vp_in_nI hn (by decide)) hdg ?_
  rw [nI_clamp (by omega)]
  exact kk
theorem r_ald24N {i : Int32} {n : Nat} (X : mX Γ p m c cc nL s args RX10 A) (hw : mW Γ.1 vwCl A L (rM Γ L x) H) (hi : i = nI n) (hn : n < 20) (hdg : decode cc pc = .ok (.iaload, 1)) (kk : W p l e R s m args below meth c H locs cells slots Q (F0 m (pc + 1) ls (.int (x.2.1 24 n) :: rest))) : W p l e R s m args below meth c H locs cells slots Q (F0 m pc ls (.int i :: .ref (L (.inr (0, 24, 0))) :: rest)) := by
  subst hi
  refine r_ald24 X hw (vp_in_nI hn (by decide)) hdg ?_
  rw [nI_clamp (by omega)]
  exact kk
theorem r_ast24N {i : Int32} {v : Int32} {n : Nat} (X : mX Γ p m c cc nL s args RX10 A) (hw : mW Γ.1 vwCl A L (rM Γ L x) H) (hS : va_S A s.heap H locs) (hi : i = nI n) (hn : n < 20) (hdg : decode cc pc = .ok (.iastore, 1)) (kk : ∀ (H1 : Heap) (locs1 : List Loc), mW Γ.1 vwCl A L (rM Γ L (sA x 24 n v)) H1 → va_S A s.heap H1 locs1 → W p l e R s m args below meth c H1 locs1 cells slots Q (F0 m (pc + 1) ls rest)) : W p l e R s m args below meth c H locs cells slots Q (F0 m pc ls (.int v :: .int i :: .ref (L (.inr (0, 24, 0))) :: rest)) := by
  subst hi
  refine r_ast24 X hw hS (vp_in_nI hn (by decide)) hdg ?_
  rw [nI_clamp (by omega)]
  exact kk
theorem r_ald25N {i : Int32} {n : Nat} (X : mX Γ p m c cc nL s args RX10 A) (hw : mW Γ.1 vwCl A L (rM Γ L x) H) (hi : i = nI n) (hn : n < 20) (hdg : decode cc pc = .ok (.iaload, 1)) (kk : W p l e R s m args below meth c H locs cells slots Q (F0 m (pc + 1) ls (.int (x.2.1 25 n) :: rest))) : W p l e R s m args below meth c H locs cells slots Q (F0 m pc ls (.int i :: .ref (L (.inr (0, 25, 0))) :: rest)) := by
  subst hi
  refine r_ald25 X hw (vp_in_nI hn (by decide)) hdg ?_
  rw [nI_clamp (by omega)]
  exact kk
theorem r_ast25N {i : Int32} {v : Int32} {n : Nat} (X : mX Γ p m c cc nL s args RX10 A) (hw : mW Γ.1 vwCl A L (rM Γ L x) H) (hS : va_S A s.heap H locs) (hi : i = nI n) (hn : n < 20) (hdg : decode cc pc = .ok (.iastore, 1)) (kk : ∀ (H1 : Heap) (locs1 : List Loc), mW Γ.1 vwCl A L (rM Γ L (sA x 25 n v)) H1 → va_S A s.heap H1 locs1 → W p l e R s m args below meth c H1 locs1 cells slots Q (F0 m (pc + 1) ls rest)) : W p l e R s m args below meth c H locs cells slots Q (F0 m pc ls (.int v :: .int i :: .ref (L (.inr (0, 25, 0))) :: rest)) := by
  subst hi
  refine r_ast25 X hw hS (vp_in_nI hn (by decide)) hdg ?_
  rw [nI_clamp (by omega)]
  exact kk
theorem r_ald26N {i : Int32} {n : Nat} (X : mX Γ p m c cc nL s args RX10 A) (hw : mW Γ.1 vwCl A L (rM Γ L x) H) (hi : i = nI n) (hn : n < 20) (hdg : decode cc pc = .ok (.iaload, 1)) (kk : W p l e R s m args below meth c H locs cells slots Q (F0 m (pc + 1) ls (.int (x.2.1 26 n) :: rest))) : W p l e R s m args below meth c H locs cells slots Q (F0 m pc ls (.int i :: .ref (L (.inr (0, 26, 0))) :: rest)) := by
  subst hi
  refine r_ald26 X hw (vp_in_nI hn (by decide)) hdg ?_
  rw [nI_clamp (by omega)]
  exact kk
theorem r_ast26N {i : Int32} {v : Int32} {n : Nat} (X : mX Γ p m c cc nL s args RX10 A) (hw : mW Γ.1 vwCl A L (rM Γ L x) H) (hS : va_S A s.heap H locs) (hi : i = nI n) (hn : n < 20) (hdg : decode cc pc = .ok (.iastore, 1)) (kk : ∀ (H1 : Heap) (locs1 : List Loc), mW Γ.1 vwCl A L (rM Γ L (sA x 26 n v)) H1 → va_S A s.heap H1 locs1 → W p l e R s m args below meth c H1 locs1 cells slots Q (F0 m (pc + 1) ls rest)) : W p l e R s m args below meth c H locs cells slots Q (F0 m pc ls (.int v :: .int i :: .ref (L (.inr (0, 26, 0))) :: rest)) := by
  subst hi
  refine r_ast26 X hw hS (vp_in_nI hn (by decide)) hdg ?_
  rw [nI_clamp (by omega)]
  exact kk
theorem r_ald27N {i : Int32} {n : Nat} (X : mX Γ p m c cc nL s args RX10 A) (hw : mW Γ.1 vwCl A L (rM Γ L x) H) (hi : i = nI n) (hn : n < 600) (hdg : decode cc pc = .ok (.laload, 1)) (kk : W p l e R s m args below meth c H locs cells slots Q (F0 m (pc + 1) ls (.long (x.2.2 27 n) :: rest))) : W p l e R s m args below meth c H locs cells slots Q (F0 m pc ls (.int i :: .ref (L (.inr (0, 27, 0))) :: rest)) := by
  subst hi
  refine r_ald27 X hw (vp_in_nI hn (by decide)) hdg ?_
  rw [nI_clamp (by omega)]
  exact kk
theorem r_ast27N {i : Int32} {v : Int64} {n : Nat} (X : mX Γ p m c cc nL s args RX10 A) (hw : mW Γ.1 vwCl A L (rM Γ L x) H) (hS : va_S A s.heap H locs) (hi : i = nI n) (hn : n < 600) (hdg : decode cc pc = .ok (.lastore, 1)) (kk : ∀ (H1 : Heap) (locs1 : List Loc), mW Γ.1 vwCl A L (rM Γ L (sJ x 27 n v)) H1 → va_S A s.heap H1 locs1 → W p l e R s m args below meth c H1 locs1 cells slots Q (F0 m (pc + 1) ls rest)) : W p l e R s m args below meth c H locs cells slots Q (F0 m pc ls (.long v :: .int i :: .ref (L (.inr (0, 27, 0))) :: rest)) := by
  subst hi
  refine r_ast27 X hw hS (vp_in_nI hn (by decide)) hdg ?_
  rw [nI_clamp (by omega)]
  exact kk
end RN
end
section
theorem dX10_isIn_0 : decode cX10_isIn 0 = .ok (.lload_n 0, 1) := by decide +kernel
theorem dX10_isIn_1 : decode cX10_isIn 1 = .ok (.lload_n 2, 1) := by decide +kernel
theorem dX10_isIn_2 : decode cX10_isIn 2 = .ok (.lcmp, 1) := by decide +kernel
theorem dX10_isIn_3 : decode cX10_isIn 3 = .ok (.ifCond .lt 14, 3) := by decide +kernel
theorem dX10_isIn_6 : decode cX10_isIn 6 = .ok (.lload_n 0, 1) := by decide +kernel
theorem dX10_isIn_7 : decode cX10_isIn 7 = .ok (.lload 4, 2) := by decide +kernel
theorem dX10_isIn_9 : decode cX10_isIn 9 = .ok (.lcmp, 1) := by decide +kernel
theorem dX10_isIn_10 : decode cX10_isIn 10 = .ok (.ifCond .gt 7, 3) := by decide +kernel
theorem dX10_isIn_13 : decode cX10_isIn 13 = .ok (.iconst 1, 1) := by decide +kernel
theorem dX10_isIn_14 : decode cX10_isIn 14 = .ok (.goto 4, 3) := by decide +kernel
theorem dX10_isIn_17 : decode cX10_isIn 17 = .ok (.iconst 0, 1) := by decide +kernel
theorem dX10_isIn_18 : decode cX10_isIn 18 = .ok (.ireturn, 1) := by decide +kernel
theorem dX10_above_0 : decode cX10_above 0 = .ok (.iload_n 0, 1) := by decide +kernel
theorem dX10_above_1 : decode cX10_above 1 = .ok (.ifCond .eq 8, 3) := by decide +kernel
theorem dX10_above_4 : decode cX10_above 4 = .ok (.iload_n 0, 1) := by decide +kernel
theorem dX10_above_5 : decode cX10_above 5 = .ok (.iconst 5, 1) := by decide +kernel
theorem dX10_above_6 : decode cX10_above 6 = .ok (.if_icmp .le 7, 3) := by decide +kernel
theorem dX10_above_9 : decode cX10_above 9 = .ok (.iconst (-1), 1) := by decide +kernel
theorem dX10_above_10 : decode cX10_above 10 = .ok (.goto 22, 3) := by decide +kernel
theorem dX10_above_13 : decode cX10_above 13 = .ok (.iload_n 0, 1) := by decide +kernel
theorem dX10_above_14 : decode cX10_above 14 = .ok (.iconst 1, 1) := by decide +kernel
theorem dX10_above_15 : decode cX10_above 15 = .ok (.if_icmp .ne 7, 3) := by decide +kernel
theorem dX10_above_18 : decode cX10_above 18 = .ok (.iconst 0, 1) := by decide +kernel
theorem dX10_above_19 : decode cX10_above 19 = .ok (.goto 13, 3) := by decide +kernel
theorem dX10_above_22 : decode cX10_above 22 = .ok (.iload_n 0, 1) := by decide +kernel
theorem dX10_above_23 : decode cX10_above 23 = .ok (.iconst 4, 1) := by decide +kernel
theorem dX10_above_24 : decode cX10_above 24 = .ok (.if_icmp .ne 7, 3) := by decide +kernel
theorem dX10_above_27 : decode cX10_above 27 = .ok (.iconst 2, 1) := by decide +kernel
theorem dX10_above_28 : decode cX10_above 28 = .ok (.goto 4, 3) := by decide +kernel
theorem dX10_above_31 : decode cX10_above 31 = .ok (.iconst 1, 1) := by decide +kernel
theorem dX10_above_32 : decode cX10_above 32 = .ok (.ireturn, 1) := by decide +kernel
theorem dX10_isUnder_0 : decode cX10_isUnder 0 = .ok (.iload_n 0, 1) := by decide +kernel
theorem dX10_isUnder_1 : decode cX10_isUnder 1 = .ok (.iload_n 1, 1) := by decide +kernel
theorem dX10_isUnder_2 : decode cX10_isUnder 2 = .ok (.if_icmp .eq 7, 3) := by decide +kernel
theorem dX10_isUnder_5 : decode cX10_isUnder 5 = .ok (.iload_n 1, 1) := by decide +kernel
theorem dX10_isUnder_6 : decode cX10_isUnder 6 = .ok (.ifCond .ne 5, 3) := by decide +kernel
theorem dX10_isUnder_9 : decode cX10_isUnder 9 = .ok (.iconst 1, 1) := by decide +kernel
theorem dX10_isUnder_10 : decode cX10_isUnder 10 = .ok (.ireturn, 1) := by decide +kernel
theorem dX10_isUnder_11 : decode cX10_isUnder 11 = .ok (.iload_n 1, 1) := by decide +kernel
theorem dX10_isUnder_12 : decode cX10_isUnder 12 = .ok (.bipush 6, 2) := by decide +kernel
theorem dX10_isUnder_14 : decode cX10_isUnder 14 = .ok (.if_icmp .ne 19, 3) := by decide +kernel
theorem dX10_isUnder_17 : decode cX10_isUnder 17 = .ok (.iload_n 0, 1) := by decide +kernel
theorem dX10_isUnder_18 : decode cX10_isUnder 18 = .ok (.iconst 3, 1) := by decide +kernel
theorem dX10_isUnder_19 : decode cX10_isUnder 19 = .ok (.if_icmp .eq 8, 3) := by decide +kernel
theorem dX10_isUnder_22 : decode cX10_isUnder 22 = .ok (.iload_n 0, 1) := by decide +kernel
theorem dX10_isUnder_23 : decode cX10_isUnder 23 = .ok (.iconst 4, 1) := by decide +kernel
theorem dX10_isUnder_24 : decode cX10_isUnder 24 = .ok (.if_icmp .ne 7, 3) := by decide +kernel
theorem dX10_isUnder_27 : decode cX10_isUnder 27 = .ok (.iconst 1, 1) := by decide +kernel
theorem dX10_isUnder_28 : decode cX10_isUnder 28 = .ok (.goto 4, 3) := by decide +kernel
theorem dX10_isUnder_31 : decode cX10_isUnder 31 = .ok (.iconst 0, 1) := by decide +kernel
theorem dX10_isUnder_32 : decode cX10_isUnder 32 = .ok (.ireturn, 1) := by decide +kernel
theorem dX10_isUnder_33 : decode cX10_isUnder 33 = .ok (.iload_n 1, 1) := by decide +kernel
theorem dX10_isUnder_34 : decode cX10_isUnder 34 = .ok (.bipush 7, 2) := by decide +kernel
theorem dX10_isUnder_36 : decode cX10_isUnder 36 = .ok (.if_icmp .ne 19, 3) := by decide +kernel
theorem dX10_isUnder_39 : decode cX10_isUnder 39 = .ok (.iload_n 0, 1) := by decide +kernel
theorem dX10_isUnder_40 : decode cX10_isUnder 40 = .ok (.iconst 4, 1) := by decide +kernel
theorem dX10_isUnder_41 : decode cX10_isUnder 41 = .ok (.if_icmp .eq 8, 3) := by decide +kernel
theorem dX10_isUnder_44 : decode cX10_isUnder 44 = .ok (.iload_n 0, 1) := by decide +kernel
theorem dX10_isUnder_45 : decode cX10_isUnder 45 = .ok (.iconst 5, 1) := by decide +kernel
theorem dX10_isUnder_46 : decode cX10_isUnder 46 = .ok (.if_icmp .ne 7, 3) := by decide +kernel
theorem dX10_isUnder_49 : decode cX10_isUnder 49 = .ok (.iconst 1, 1) := by decide +kernel
theorem dX10_isUnder_50 : decode cX10_isUnder 50 = .ok (.goto 4, 3) := by decide +kernel
theorem dX10_isUnder_53 : decode cX10_isUnder 53 = .ok (.iconst 0, 1) := by decide +kernel
theorem dX10_isUnder_54 : decode cX10_isUnder 54 = .ok (.ireturn, 1) := by decide +kernel
theorem dX10_isUnder_55 : decode cX10_isUnder 55 = .ok (.iload_n 0, 1) := by decide +kernel
theorem dX10_isUnder_56 : decode cX10_isUnder 56 = .ok (.istore_n 2, 1) := by decide +kernel
theorem dX10_isUnder_57 : decode cX10_isUnder 57 = .ok (.iload_n 2, 1) := by decide +kernel
theorem dX10_isUnder_58 : decode cX10_isUnder 58 = .ok (.iconst (-1), 1) := by decide +kernel
theorem dX10_isUnder_59 : decode cX10_isUnder 59 = .ok (.if_icmp .eq 16, 3) := by decide +kernel
theorem dX10_isUnder_62 : decode cX10_isUnder 62 = .ok (.iload_n 2, 1) := by decide +kernel
theorem dX10_isUnder_63 : decode cX10_isUnder 63 = .ok (.iload_n 1, 1) := by decide +kernel
theorem dX10_isUnder_64 : decode cX10_isUnder 64 = .ok (.if_icmp .eq 11, 3) := by decide +kernel
theorem dX10_isUnder_67 : decode cX10_isUnder 67 = .ok (.iload_n 2, 1) := by decide +kernel
theorem dX10_isUnder_68 : decode cX10_isUnder 68 = .ok (.invokestatic 83, 3) := by decide +kernel
theorem dX10_isUnder_71 : decode cX10_isUnder 71 = .ok (.istore_n 2, 1) := by decide +kernel
theorem dX10_isUnder_72 : decode cX10_isUnder 72 = .ok (.goto (-15), 3) := by decide +kernel
theorem dX10_isUnder_75 : decode cX10_isUnder 75 = .ok (.iload_n 2, 1) := by decide +kernel
theorem dX10_isUnder_76 : decode cX10_isUnder 76 = .ok (.iload_n 1, 1) := by decide +kernel
theorem dX10_isUnder_77 : decode cX10_isUnder 77 = .ok (.if_icmp .ne 7, 3) := by decide +kernel
theorem dX10_isUnder_80 : decode cX10_isUnder 80 = .ok (.iconst 1, 1) := by decide +kernel
theorem dX10_isUnder_81 : decode cX10_isUnder 81 = .ok (.goto 4, 3) := by decide +kernel
theorem dX10_isUnder_84 : decode cX10_isUnder 84 = .ok (.iconst 0, 1) := by decide +kernel
theorem dX10_isUnder_85 : decode cX10_isUnder 85 = .ok (.ireturn, 1) := by decide +kernel
theorem dX10_isObject_0 : decode cX10_isObject 0 = .ok (.iload_n 0, 1) := by decide +kernel
theorem dX10_isObject_1 : decode cX10_isObject 1 = .ok (.i2l, 1) := by decide +kernel
theorem dX10_isObject_2 : decode cX10_isObject 2 = .ok (.ldc2_w 87, 3) := by decide +kernel
theorem dX10_isObject_5 : decode cX10_isObject 5 = .ok (.ldc2_w 89, 3) := by decide +kernel
theorem dX10_isObject_8 : decode cX10_isObject 8 = .ok (.invokestatic 79, 3) := by decide +kernel
theorem dX10_isObject_11 : decode cX10_isObject 11 = .ok (.ireturn, 1) := by decide +kernel
theorem dX10_isRow_0 : decode cX10_isRow 0 = .ok (.iload_n 0, 1) := by decide +kernel
theorem dX10_isRow_1 : decode cX10_isRow 1 = .ok (.i2l, 1) := by decide +kernel
theorem dX10_isRow_2 : decode cX10_isRow 2 = .ok (.ldc2_w 91, 3) := by decide +kernel
theorem dX10_isRow_5 : decode cX10_isRow 5 = .ok (.ldc2_w 93, 3) := by decide +kernel
theorem dX10_isRow_8 : decode cX10_isRow 8 = .ok (.invokestatic 79, 3) := by decide +kernel
theorem dX10_isRow_11 : decode cX10_isRow 11 = .ok (.ireturn, 1) := by decide +kernel
theorem dX10_isThing_0 : decode cX10_isThing 0 = .ok (.iload_n 0, 1) := by decide +kernel
theorem dX10_isThing_1 : decode cX10_isThing 1 = .ok (.iconst 5, 1) := by decide +kernel
theorem dX10_isThing_2 : decode cX10_isThing 2 = .ok (.if_icmp .eq 17, 3) := by decide +kernel
theorem dX10_isThing_5 : decode cX10_isThing 5 = .ok (.iload_n 0, 1) := by decide +kernel
theorem dX10_isThing_6 : decode cX10_isThing 6 = .ok (.invokestatic 95, 3) := by decide +kernel
theorem dX10_isThing_9 : decode cX10_isThing 9 = .ok (.ifCond .ne 10, 3) := by decide +kernel
theorem dX10_isThing_12 : decode cX10_isThing 12 = .ok (.iload_n 0, 1) := by decide +kernel
theorem dX10_isThing_13 : decode cX10_isThing 13 = .ok (.invokestatic 99, 3) := by decide +kernel
theorem dX10_isThing_16 : decode cX10_isThing 16 = .ok (.ifCond .eq 7, 3) := by decide +kernel
theorem dX10_isThing_19 : decode cX10_isThing 19 = .ok (.iconst 1, 1) := by decide +kernel
theorem dX10_isThing_20 : decode cX10_isThing 20 = .ok (.goto 4, 3) := by decide +kernel
theorem dX10_isThing_23 : decode cX10_isThing 23 = .ok (.iconst 0, 1) := by decide +kernel
theorem dX10_isThing_24 : decode cX10_isThing 24 = .ok (.ireturn, 1) := by decide +kernel
theorem dX10_isKind_0 : decode cX10_isKind 0 = .ok (.iload_n 0, 1) := by decide +kernel
theorem dX10_isKind_1 : decode cX10_isKind 1 = .ok (.i2l, 1) := by decide +kernel
theorem dX10_isKind_2 : decode cX10_isKind 2 = .ok (.lconst 0, 1) := by decide +kernel
theorem dX10_isKind_3 : decode cX10_isKind 3 = .ok (.ldc2_w 102, 3) := by decide +kernel
theorem dX10_isKind_6 : decode cX10_isKind 6 = .ok (.invokestatic 79, 3) := by decide +kernel
theorem dX10_isKind_9 : decode cX10_isKind 9 = .ok (.ifCond .ne 31, 3) := by decide +kernel
theorem dX10_isKind_12 : decode cX10_isKind 12 = .ok (.iload_n 0, 1) := by decide +kernel
theorem dX10_isKind_13 : decode cX10_isKind 13 = .ok (.invokestatic 95, 3) := by decide +kernel
theorem dX10_isKind_16 : decode cX10_isKind 16 = .ok (.ifCond .ne 24, 3) := by decide +kernel
theorem dX10_isKind_19 : decode cX10_isKind 19 = .ok (.iload_n 0, 1) := by decide +kernel
theorem dX10_isKind_20 : decode cX10_isKind 20 = .ok (.invokestatic 99, 3) := by decide +kernel
theorem dX10_isKind_23 : decode cX10_isKind 23 = .ok (.ifCond .ne 17, 3) := by decide +kernel
theorem dX10_isKind_26 : decode cX10_isKind 26 = .ok (.iload_n 0, 1) := by decide +kernel
theorem dX10_isKind_27 : decode cX10_isKind 27 = .ok (.i2l, 1) := by decide +kernel
theorem dX10_isKind_28 : decode cX10_isKind 28 = .ok (.ldc2_w 104, 3) := by decide +kernel
theorem dX10_isKind_31 : decode cX10_isKind 31 = .ok (.ldc2_w 106, 3) := by decide +kernel
theorem dX10_isKind_34 : decode cX10_isKind 34 = .ok (.invokestatic 79, 3) := by decide +kernel
theorem dX10_isKind_37 : decode cX10_isKind 37 = .ok (.ifCond .eq 7, 3) := by decide +kernel
theorem dX10_isKind_40 : decode cX10_isKind 40 = .ok (.iconst 1, 1) := by decide +kernel
theorem dX10_isKind_41 : decode cX10_isKind 41 = .ok (.goto 4, 3) := by decide +kernel
theorem dX10_isKind_44 : decode cX10_isKind 44 = .ok (.iconst 0, 1) := by decide +kernel
theorem dX10_isKind_45 : decode cX10_isKind 45 = .ok (.ireturn, 1) := by decide +kernel
theorem dX10_goes_0 : decode cX10_goes 0 = .ok (.iload_n 0, 1) := by decide +kernel
theorem dX10_goes_1 : decode cX10_goes 1 = .ok (.iload_n 1, 1) := by decide +kernel
theorem dX10_goes_2 : decode cX10_goes 2 = .ok (.if_icmp .eq 7, 3) := by decide +kernel
theorem dX10_goes_5 : decode cX10_goes 5 = .ok (.iload_n 1, 1) := by decide +kernel
theorem dX10_goes_6 : decode cX10_goes 6 = .ok (.ifCond .ne 5, 3) := by decide +kernel
theorem dX10_goes_9 : decode cX10_goes 9 = .ok (.iconst 1, 1) := by decide +kernel
theorem dX10_goes_10 : decode cX10_goes 10 = .ok (.ireturn, 1) := by decide +kernel
theorem dX10_goes_11 : decode cX10_goes 11 = .ok (.iload_n 0, 1) := by decide +kernel
theorem dX10_goes_12 : decode cX10_goes 12 = .ok (.iconst 4, 1) := by decide +kernel
theorem dX10_goes_13 : decode cX10_goes 13 = .ok (.if_icmp .ne 8, 3) := by decide +kernel
theorem dX10_goes_16 : decode cX10_goes 16 = .ok (.iload_n 1, 1) := by decide +kernel
theorem dX10_goes_17 : decode cX10_goes 17 = .ok (.invokestatic 108, 3) := by decide +kernel
theorem dX10_goes_20 : decode cX10_goes 20 = .ok (.ireturn, 1) := by decide +kernel
theorem dX10_goes_21 : decode cX10_goes 21 = .ok (.iload_n 0, 1) := by decide +kernel
theorem dX10_goes_22 : decode cX10_goes 22 = .ok (.invokestatic 95, 3) := by decide +kernel
theorem dX10_goes_25 : decode cX10_goes 25 = .ok (.ifCond .eq 36, 3) := by decide +kernel
theorem dX10_goes_28 : decode cX10_goes 28 = .ok (.iload_n 1, 1) := by decide +kernel
theorem dX10_goes_29 : decode cX10_goes 29 = .ok (.invokestatic 95, 3) := by decide +kernel
theorem dX10_goes_32 : decode cX10_goes 32 = .ok (.ifCond .eq 29, 3) := by decide +kernel
theorem dX10_goes_35 : decode cX10_goes 35 = .ok (.iload_n 1, 1) := by decide +kernel
theorem dX10_goes_36 : decode cX10_goes 36 = .ok (.bipush 15, 2) := by decide +kernel
theorem dX10_goes_38 : decode cX10_goes 38 = .ok (.if_icmp .gt 17, 3) := by decide +kernel
theorem dX10_goes_41 : decode cX10_goes 41 = .ok (.iload_n 0, 1) := by decide +kernel
theorem dX10_goes_42 : decode cX10_goes 42 = .ok (.bipush 10, 2) := by decide +kernel
theorem dX10_goes_44 : decode cX10_goes 44 = .ok (.isub, 1) := by decide +kernel
theorem dX10_goes_45 : decode cX10_goes 45 = .ok (.iload_n 1, 1) := by decide +kernel
theorem dX10_goes_46 : decode cX10_goes 46 = .ok (.bipush 10, 2) := by decide +kernel
theorem dX10_goes_48 : decode cX10_goes 48 = .ok (.isub, 1) := by decide +kernel
theorem dX10_goes_49 : decode cX10_goes 49 = .ok (.invokestatic 111, 3) := by decide +kernel
theorem dX10_goes_52 : decode cX10_goes 52 = .ok (.ifCond .eq 7, 3) := by decide +kernel
theorem dX10_goes_55 : decode cX10_goes 55 = .ok (.iconst 1, 1) := by decide +kernel
theorem dX10_goes_56 : decode cX10_goes 56 = .ok (.goto 4, 3) := by decide +kernel
theorem dX10_goes_59 : decode cX10_goes 59 = .ok (.iconst 0, 1) := by decide +kernel
theorem dX10_goes_60 : decode cX10_goes 60 = .ok (.ireturn, 1) := by decide +kernel
theorem dX10_goes_61 : decode cX10_goes 61 = .ok (.iload_n 0, 1) := by decide +kernel
theorem dX10_goes_62 : decode cX10_goes 62 = .ok (.iconst 5, 1) := by decide +kernel
theorem dX10_goes_63 : decode cX10_goes 63 = .ok (.if_icmp .eq 10, 3) := by decide +kernel
theorem dX10_goes_66 : decode cX10_goes 66 = .ok (.iload_n 0, 1) := by decide +kernel
theorem dX10_goes_67 : decode cX10_goes 67 = .ok (.invokestatic 99, 3) := by decide +kernel
theorem dX10_goes_70 : decode cX10_goes 70 = .ok (.ifCond .eq 28, 3) := by decide +kernel
theorem dX10_goes_73 : decode cX10_goes 73 = .ok (.iload_n 1, 1) := by decide +kernel
theorem dX10_goes_74 : decode cX10_goes 74 = .ok (.invokestatic 95, 3) := by decide +kernel
theorem dX10_goes_77 : decode cX10_goes 77 = .ok (.ifCond .eq 21, 3) := by decide +kernel
theorem dX10_goes_80 : decode cX10_goes 80 = .ok (.iload_n 1, 1) := by decide +kernel
theorem dX10_goes_81 : decode cX10_goes 81 = .ok (.bipush 10, 2) := by decide +kernel
theorem dX10_goes_83 : decode cX10_goes 83 = .ok (.if_icmp .eq 9, 3) := by decide +kernel
theorem dX10_goes_86 : decode cX10_goes 86 = .ok (.iload_n 1, 1) := by decide +kernel
theorem dX10_goes_87 : decode cX10_goes 87 = .ok (.bipush 15, 2) := by decide +kernel
theorem dX10_goes_89 : decode cX10_goes 89 = .ok (.if_icmp .le 7, 3) := by decide +kernel
theorem dX10_goes_92 : decode cX10_goes 92 = .ok (.iconst 1, 1) := by decide +kernel
theorem dX10_goes_93 : decode cX10_goes 93 = .ok (.goto 4, 3) := by decide +kernel
theorem dX10_goes_96 : decode cX10_goes 96 = .ok (.iconst 0, 1) := by decide +kernel
theorem dX10_goes_97 : decode cX10_goes 97 = .ok (.ireturn, 1) := by decide +kernel
theorem dX10_goes_98 : decode cX10_goes 98 = .ok (.iload_n 0, 1) := by decide +kernel
theorem dX10_goes_99 : decode cX10_goes 99 = .ok (.invokestatic 99, 3) := by decide +kernel
theorem dX10_goes_102 : decode cX10_goes 102 = .ok (.ifCond .eq 28, 3) := by decide +kernel
theorem dX10_goes_105 : decode cX10_goes 105 = .ok (.iload_n 1, 1) := by decide +kernel
theorem dX10_goes_106 : decode cX10_goes 106 = .ok (.invokestatic 99, 3) := by decide +kernel
theorem dX10_goes_109 : decode cX10_goes 109 = .ok (.ifCond .eq 21, 3) := by decide +kernel
theorem dX10_goes_112 : decode cX10_goes 112 = .ok (.iload_n 0, 1) := by decide +kernel
theorem dX10_goes_113 : decode cX10_goes 113 = .ok (.bipush 20, 2) := by decide +kernel
theorem dX10_goes_115 : decode cX10_goes 115 = .ok (.isub, 1) := by decide +kernel
theorem dX10_goes_116 : decode cX10_goes 116 = .ok (.iload_n 1, 1) := by decide +kernel
theorem dX10_goes_117 : decode cX10_goes 117 = .ok (.bipush 20, 2) := by decide +kernel
theorem dX10_goes_119 : decode cX10_goes 119 = .ok (.isub, 1) := by decide +kernel
theorem dX10_goes_120 : decode cX10_goes 120 = .ok (.invokestatic 111, 3) := by decide +kernel
theorem dX10_goes_123 : decode cX10_goes 123 = .ok (.ifCond .eq 7, 3) := by decide +kernel
theorem dX10_goes_126 : decode cX10_goes 126 = .ok (.iconst 1, 1) := by decide +kernel
theorem dX10_goes_127 : decode cX10_goes 127 = .ok (.goto 4, 3) := by decide +kernel
theorem dX10_goes_130 : decode cX10_goes 130 = .ok (.iconst 0, 1) := by decide +kernel
theorem dX10_goes_131 : decode cX10_goes 131 = .ok (.ireturn, 1) := by decide +kernel
theorem dX10_common_0 : decode cX10_common 0 = .ok (.iload_n 0, 1) := by decide +kernel
theorem dX10_common_1 : decode cX10_common 1 = .ok (.iconst 5, 1) := by decide +kernel
theorem dX10_common_2 : decode cX10_common 2 = .ok (.if_icmp .le 7, 3) := by decide +kernel
theorem dX10_common_5 : decode cX10_common 5 = .ok (.iconst 0, 1) := by decide +kernel
theorem dX10_common_6 : decode cX10_common 6 = .ok (.goto 4, 3) := by decide +kernel
theorem dX10_common_9 : decode cX10_common 9 = .ok (.iload_n 0, 1) := by decide +kernel
theorem dX10_common_10 : decode cX10_common 10 = .ok (.istore_n 2, 1) := by decide +kernel
theorem dX10_common_11 : decode cX10_common 11 = .ok (.iload_n 1, 1) := by decide +kernel
theorem dX10_common_12 : decode cX10_common 12 = .ok (.iload_n 2, 1) := by decide +kernel
theorem dX10_common_13 : decode cX10_common 13 = .ok (.invokestatic 111, 3) := by decide +kernel
theorem dX10_common_16 : decode cX10_common 16 = .ok (.ifCond .ne 11, 3) := by decide +kernel
theorem dX10_common_19 : decode cX10_common 19 = .ok (.iload_n 2, 1) := by decide +kernel
theorem dX10_common_20 : decode cX10_common 20 = .ok (.invokestatic 83, 3) := by decide +kernel
theorem dX10_common_23 : decode cX10_common 23 = .ok (.istore_n 2, 1) := by decide +kernel
theorem dX10_common_24 : decode cX10_common 24 = .ok (.goto (-13), 3) := by decide +kernel
theorem dX10_common_27 : decode cX10_common 27 = .ok (.iload_n 2, 1) := by decide +kernel
theorem dX10_common_28 : decode cX10_common 28 = .ok (.ireturn, 1) := by decide +kernel
theorem dX10_joined_0 : decode cX10_joined 0 = .ok (.iload_n 0, 1) := by decide +kernel
theorem dX10_joined_1 : decode cX10_joined 1 = .ok (.iload_n 1, 1) := by decide +kernel
theorem dX10_joined_2 : decode cX10_joined 2 = .ok (.if_icmp .ne 5, 3) := by decide +kernel
theorem dX10_joined_5 : decode cX10_joined 5 = .ok (.iload_n 0, 1) := by decide +kernel
theorem dX10_joined_6 : decode cX10_joined 6 = .ok (.ireturn, 1) := by decide +kernel
theorem dX10_joined_7 : decode cX10_joined 7 = .ok (.iload_n 0, 1) := by decide +kernel
theorem dX10_joined_8 : decode cX10_joined 8 = .ok (.iconst 4, 1) := by decide +kernel
theorem dX10_joined_9 : decode cX10_joined 9 = .ok (.if_icmp .ne 12, 3) := by decide +kernel
theorem dX10_joined_12 : decode cX10_joined 12 = .ok (.iload_n 1, 1) := by decide +kernel
theorem dX10_joined_13 : decode cX10_joined 13 = .ok (.invokestatic 108, 3) := by decide +kernel
theorem dX10_joined_16 : decode cX10_joined 16 = .ok (.ifCond .eq 5, 3) := by decide +kernel
theorem dX10_joined_19 : decode cX10_joined 19 = .ok (.iload_n 1, 1) := by decide +kernel
theorem dX10_joined_20 : decode cX10_joined 20 = .ok (.ireturn, 1) := by decide +kernel
theorem dX10_joined_21 : decode cX10_joined 21 = .ok (.iload_n 1, 1) := by decide +kernel
theorem dX10_joined_22 : decode cX10_joined 22 = .ok (.iconst 4, 1) := by decide +kernel
theorem dX10_joined_23 : decode cX10_joined 23 = .ok (.if_icmp .ne 12, 3) := by decide +kernel
theorem dX10_joined_26 : decode cX10_joined 26 = .ok (.iload_n 0, 1) := by decide +kernel
theorem dX10_joined_27 : decode cX10_joined 27 = .ok (.invokestatic 108, 3) := by decide +kernel
theorem dX10_joined_30 : decode cX10_joined 30 = .ok (.ifCond .eq 5, 3) := by decide +kernel
theorem dX10_joined_33 : decode cX10_joined 33 = .ok (.iload_n 0, 1) := by decide +kernel
theorem dX10_joined_34 : decode cX10_joined 34 = .ok (.ireturn, 1) := by decide +kernel
theorem dX10_joined_35 : decode cX10_joined 35 = .ok (.iload_n 0, 1) := by decide +kernel
theorem dX10_joined_36 : decode cX10_joined 36 = .ok (.invokestatic 95, 3) := by decide +kernel
theorem dX10_joined_39 : decode cX10_joined 39 = .ok (.ifCond .eq 25, 3) := by decide +kernel
theorem dX10_joined_42 : decode cX10_joined 42 = .ok (.iload_n 1, 1) := by decide +kernel
theorem dX10_joined_43 : decode cX10_joined 43 = .ok (.invokestatic 95, 3) := by decide +kernel
theorem dX10_joined_46 : decode cX10_joined 46 = .ok (.ifCond .eq 18, 3) := by decide +kernel
theorem dX10_joined_49 : decode cX10_joined 49 = .ok (.bipush 10, 2) := by decide +kernel
theorem dX10_joined_51 : decode cX10_joined 51 = .ok (.iload_n 0, 1) := by decide +kernel
theorem dX10_joined_52 : decode cX10_joined 52 = .ok (.bipush 10, 2) := by decide +kernel
theorem dX10_joined_54 : decode cX10_joined 54 = .ok (.isub, 1) := by decide +kernel
theorem dX10_joined_55 : decode cX10_joined 55 = .ok (.iload_n 1, 1) := by decide +kernel
theorem dX10_joined_56 : decode cX10_joined 56 = .ok (.bipush 10, 2) := by decide +kernel
theorem dX10_joined_58 : decode cX10_joined 58 = .ok (.isub, 1) := by decide +kernel
theorem dX10_joined_59 : decode cX10_joined 59 = .ok (.invokestatic 115, 3) := by decide +kernel
theorem dX10_joined_62 : decode cX10_joined 62 = .ok (.iadd, 1) := by decide +kernel
theorem dX10_joined_63 : decode cX10_joined 63 = .ok (.ireturn, 1) := by decide +kernel
theorem dX10_joined_64 : decode cX10_joined 64 = .ok (.iload_n 0, 1) := by decide +kernel
theorem dX10_joined_65 : decode cX10_joined 65 = .ok (.invokestatic 99, 3) := by decide +kernel
theorem dX10_joined_68 : decode cX10_joined 68 = .ok (.ifCond .eq 25, 3) := by decide +kernel
theorem dX10_joined_71 : decode cX10_joined 71 = .ok (.iload_n 1, 1) := by decide +kernel
theorem dX10_joined_72 : decode cX10_joined 72 = .ok (.invokestatic 99, 3) := by decide +kernel
theorem dX10_joined_75 : decode cX10_joined 75 = .ok (.ifCond .eq 18, 3) := by decide +kernel
theorem dX10_joined_78 : decode cX10_joined 78 = .ok (.bipush 20, 2) := by decide +kernel
theorem dX10_joined_80 : decode cX10_joined 80 = .ok (.iload_n 0, 1) := by decide +kernel
theorem dX10_joined_81 : decode cX10_joined 81 = .ok (.bipush 20, 2) := by decide +kernel
theorem dX10_joined_83 : decode cX10_joined 83 = .ok (.isub, 1) := by decide +kernel
theorem dX10_joined_84 : decode cX10_joined 84 = .ok (.iload_n 1, 1) := by decide +kernel
theorem dX10_joined_85 : decode cX10_joined 85 = .ok (.bipush 20, 2) := by decide +kernel
theorem dX10_joined_87 : decode cX10_joined 87 = .ok (.isub, 1) := by decide +kernel
theorem dX10_joined_88 : decode cX10_joined 88 = .ok (.invokestatic 115, 3) := by decide +kernel
theorem dX10_joined_91 : decode cX10_joined 91 = .ok (.iadd, 1) := by decide +kernel
theorem dX10_joined_92 : decode cX10_joined 92 = .ok (.ireturn, 1) := by decide +kernel
theorem dX10_joined_93 : decode cX10_joined 93 = .ok (.iload_n 0, 1) := by decide +kernel
theorem dX10_joined_94 : decode cX10_joined 94 = .ok (.invokestatic 108, 3) := by decide +kernel
theorem dX10_joined_97 : decode cX10_joined 97 = .ok (.ifCond .eq 15, 3) := by decide +kernel
theorem dX10_joined_100 : decode cX10_joined 100 = .ok (.iload_n 1, 1) := by decide +kernel
theorem dX10_joined_101 : decode cX10_joined 101 = .ok (.invokestatic 108, 3) := by decide +kernel
theorem dX10_joined_104 : decode cX10_joined 104 = .ok (.ifCond .eq 8, 3) := by decide +kernel
theorem dX10_joined_107 : decode cX10_joined 107 = .ok (.bipush 10, 2) := by decide +kernel
theorem dX10_joined_109 : decode cX10_joined 109 = .ok (.goto 4, 3) := by decide +kernel
theorem dX10_joined_112 : decode cX10_joined 112 = .ok (.iconst 0, 1) := by decide +kernel
theorem dX10_joined_113 : decode cX10_joined 113 = .ok (.ireturn, 1) := by decide +kernel
theorem dX10_isOnePlace_0 : decode cX10_isOnePlace 0 = .ok (.iload_n 0, 1) := by decide +kernel
theorem dX10_isOnePlace_1 : decode cX10_isOnePlace 1 = .ok (.iconst 1, 1) := by decide +kernel
theorem dX10_isOnePlace_2 : decode cX10_isOnePlace 2 = .ok (.if_icmp .eq 8, 3) := by decide +kernel
theorem dX10_isOnePlace_5 : decode cX10_isOnePlace 5 = .ok (.iload_n 0, 1) := by decide +kernel
theorem dX10_isOnePlace_6 : decode cX10_isOnePlace 6 = .ok (.iconst 4, 1) := by decide +kernel
theorem dX10_isOnePlace_7 : decode cX10_isOnePlace 7 = .ok (.if_icmp .lt 7, 3) := by decide +kernel
theorem dX10_isOnePlace_10 : decode cX10_isOnePlace 10 = .ok (.iconst 1, 1) := by decide +kernel
theorem dX10_isOnePlace_11 : decode cX10_isOnePlace 11 = .ok (.goto 4, 3) := by decide +kernel
theorem dX10_isOnePlace_14 : decode cX10_isOnePlace 14 = .ok (.iconst 0, 1) := by decide +kernel
theorem dX10_isOnePlace_15 : decode cX10_isOnePlace 15 = .ok (.ireturn, 1) := by decide +kernel
end
section
/-! THE REFERENCE'S PURE METHODS, as functions -/
def r_isIn (v a b : Int64) : Bool := !decide (v < a) && !decide (b < v)
def r_above (c : Int32) : Int32 := if c = 0 ∨ 5 < c then -1 else if c = 1 then 0 else if c = 4 then 2 else 1
def r_up : Nat → Int32 → Int32 → Bool
  | 0, x, d => decide (x = d)
  | n + 1, x, d => if x = -1 ∨ x = d then decide (x = d) else r_up n (r_above x) d
def r_under (c d : Int32) : Bool := if c = d ∨ d = 0 then true else if d = 6 then decide (c = 3 ∨ c = 4) else if d = 7 then decide (c = 4 ∨ c = 5) else r_up 5 c d
def r_isObj (k : Int32) : Bool := r_isIn k.toInt64 10 17
def r_isRow (k : Int32) : Bool := r_isIn k.toInt64 21 25
def r_isThing (k : Int32) : Bool := decide (k = 5) || (r_isObj k || r_isRow k)
def r_isKind (k : Int32) : Bool := r_isIn k.toInt64 0 5 || (r_isObj k || (r_isRow k || r_isIn k.toInt64 100 139))
def r_goes (x y : Int32) : Bool := if x = y ∨ y = 0 then true else if x = 4 then r_isThing y else if (r_isObj x && r_isObj y) = true then (decide (15 < y) || r_under (x - 10) (y - 10)) else if ((decide (x = 5) || r_isRow x) && r_isObj y) = true then (decide (y = 10) || decide (15 < y)) else (r_isRow x && (r_isRow y && r_under (x - 20) (y - 20)))
def r_com : Nat → Int32 → Int32 → Int32
  | 0, x, _ => x
  | n + 1, x, d => if r_under d x = true then x else r_com n (r_above x) d
def r_common (c d : Int32) : Int32 := r_com 5 (if 5 < c then 0 else c) d
def r_join3 (x y : Int32) : Int32 := if (r_isThing x && r_isThing y) = true then 10 else 0
def r_join2 (x y : Int32) : Int32 := if (r_isRow x && r_isRow y) = true then 20 + r_common (x - 20) (y - 20) else r_join3 x y
def r_join1 (x y : Int32) : Int32 := if (r_isObj x && r_isObj y) = true then 10 + r_common (x - 10) (y - 10) else r_join2 x y
def r_joined (x y : Int32) : Int32 := if x = y then x else if x = 4 ∧ r_isThing y = true then y else if y = 4 ∧ r_isThing x = true then x else r_join1 x y
def r_one (k : Int32) : Bool := decide (k = 1) || decide (4 ≤ k)
def r_rk (z : Int32) : Nat := if z = -1 then 0 else if z = 0 ∨ 5 < z then 1 else if z = 1 then 2 else if z = 4 then 4 else 3
theorem r_rk5 (z : Int32) : r_rk z ≤ 5 := by unfold r_rk; repeat (first | split | omega)
theorem r_rk_pos {z : Int32} (h : ¬ z = -1) : ¬ r_rk z ≤ 0 := by unfold r_rk; rw [if_neg h]; repeat (first | split | omega)
theorem r_rk_dn {z : Int32} {n : Nat} (h : ¬ z = -1) (hn : r_rk z ≤ n + 1) : r_rk (r_above z) ≤ n := by
  unfold r_rk at hn
  rw [if_neg h] at hn
  unfold r_above
  by_cases h1 : z = 0 ∨ 5 < z
  · rw [if_pos h1]; exact Nat.zero_le _
  · rw [if_neg h1] at hn ⊢
    by_cases h2 : z = 1
    · rw [if_pos h2] at hn ⊢
      have : r_rk 0 = 1 := by decide
      omega
    · rw [if_neg h2] at hn ⊢
      by_cases h3 : z = 4
      · rw [if_pos h3] at hn ⊢
        have : r_rk 2 = 3 := by decide
        omega
      · rw [if_neg h3] at hn ⊢
        have : r_rk 1 = 2 := by decide
        omega
def r_rk2 (z : Int32) : Nat := if z = 0 then 0 else if z = 1 then 1 else if z = 4 then 3 else if 5 < z then 4 else 2
theorem r_rk2_0 {z : Int32} (h : r_rk2 z ≤ 0) : z = 0 := by
  unfold r_rk2 at h
  by_cases h1 : z = 0
  · exact h1
  · rw [if_neg h1] at h
    exfalso
    revert h
    repeat (first | split | (intro h; omega))
theorem r_rk2_5 {z : Int32} (_ : z ≤ 5) : r_rk2 z ≤ 5 := by unfold r_rk2; repeat (first | split | omega)
theorem r_under0 (d : Int32) : r_under d 0 = true := by simp [r_under]
theorem r_rk2_dn {z d : Int32} {n : Nat} (h : r_under d z = false) (hn : r_rk2 z ≤ n + 1) : r_rk2 (r_above z) ≤ n := by
  have h0 : ¬ z = 0 := fun e => by rw [e, r_under0] at h; cases h
  unfold r_rk2 at hn
  rw [if_neg h0] at hn
  unfold r_above
  by_cases h1 : z = 0 ∨ 5 < z
  · rw [if_pos h1]
    have h5 : 5 < z := h1.resolve_left h0
    have e1 : ¬ z = 1 := fun e => by rw [e] at h5; exact absurd h5 (by decide)
    have e4 : ¬ z = 4 := fun e => by rw [e] at h5; exact absurd h5 (by decide)
    rw [if_neg e1, if_neg e4, if_pos h5] at hn
    have : r_rk2 (-1) = 2 := by decide
    omega
  · rw [if_neg h1]
    by_cases h2 : z = 1
    · rw [if_pos h2] at hn ⊢
      have : r_rk2 0 = 0 := by decide
      omega
    · rw [if_neg h2] at hn ⊢
      by_cases h3 : z = 4
      · rw [if_pos h3] at hn ⊢
        have : r_rk2 2 = 2 := by decide
        omega
      · rw [if_neg h3] at hn ⊢
        rw [if_neg (fun q => h1 (Or.inr q))] at hn
        have : r_rk2 1 = 1 := by decide
        omega
theorem s_X10_isIn : mSm yX10_isIn cX10_isIn 6 (some .boolean) 3 := ⟨cd_X10_isIn, st_X10_isIn, ini_X10, by decide, by decide, by decide +kernel⟩
set_option maxHeartbeats 4000000 in
set_option maxRecDepth 100000 in
theorem k_X10_isIn (Γ : mG) (l : Launch) (L : mI → Nat) (M : mM) (v : Int64) (a : Int64) (b : Int64) : mMet Γ l yX10_isIn cX10_isIn 6 (some .boolean) { frames := 0, cells := 0, slots := 0, locals := 0 } [.long v, .long a, .long b] L M (mQi Γ (fun r L1 M1 => r = bI (r_isIn v a b) ∧ L1 = L ∧ M1 = M)) := by
  refine m_start (by decide) (Nat.le_of_ble_eq_true rfl) ?_
  intro p e s m args below meth c A ls X hr hlk hnm hw hS hl
  have hx := X.1.1
  have hb := X.1.2.1
  have hl : lv_has ls 6 [(0, .long v), (2, .long a), (4, .long b)] := hl
  refine lv_lload_n hx hb dX10_isIn_0 rfl (lv_at hl 0 rfl) ?_
  refine lv_lload_n hx hb dX10_isIn_1 rfl (lv_at hl 1 rfl) ?_
  refine m_lcmp_lt (tgt := 17) hx hb dX10_isIn_2 dX10_isIn_3 (by decide) (fun c_1 => ?_) (fun c_1 => ?_)
  · skip
    refine lv_iconst (v := 0) hx hb dX10_isIn_17 (by decide) ?_
    exact m_zret (b := r_isIn v a b) X hr hlk hw hS (Nat.zero_le _) (Nat.zero_le _) (by clear hb hx hl hS hw hnm hlk hr X; first | rfl | (simp_all [bI, r_isIn]; done) | (simp_all [bI, r_isIn]; rfl)) (⟨rfl, rfl, rfl⟩) dX10_isIn_18
  · skip
    refine lv_lload_n hx hb dX10_isIn_6 rfl (lv_at hl 0 rfl) ?_
    refine lv_lload hx hb dX10_isIn_7 (lv_at hl 2 rfl) ?_
    refine m_lcmp_gt (tgt := 17) hx hb dX10_isIn_9 dX10_isIn_10 (by decide) (fun c_2 => ?_) (fun c_2 => ?_)
    · skip
      refine lv_iconst (v := 0) hx hb dX10_isIn_17 (by decide) ?_
      exact m_zret (b := r_isIn v a b) X hr hlk hw hS (Nat.zero_le _) (Nat.zero_le _) (by clear hb hx hl hS hw hnm hlk hr X; first | rfl | (simp_all [bI, r_isIn]; done) | (simp_all [bI, r_isIn]; rfl)) (⟨rfl, rfl, rfl⟩) dX10_isIn_18
    · skip
      refine lv_iconst (v := 1) hx hb dX10_isIn_13 (by decide) ?_
      refine lv_goto (tgt := 18) hx hb dX10_isIn_14 (by decide) ?_
      exact m_zret (b := r_isIn v a b) X hr hlk hw hS (Nat.zero_le _) (Nat.zero_le _) (by clear hb hx hl hS hw hnm hlk hr X; first | rfl | (simp_all [bI, r_isIn]; done) | (simp_all [bI, r_isIn]; rfl)) (⟨rfl, rfl, rfl⟩) dX10_isIn_18
theorem s_X10_above : mSm yX10_above cX10_above 1 (some .int) 1 := ⟨cd_X10_above, st_X10_above, ini_X10, by decide, by decide, by decide +kernel⟩
set_option maxHeartbeats 4000000 in
set_option maxRecDepth 100000 in
theorem k_X10_above (Γ : mG) (l : Launch) (L : mI → Nat) (M : mM) (a : Int32) : mMet Γ l yX10_above cX10_above 1 (some .int) { frames := 0, cells := 0, slots := 0, locals := 0 } [.int a] L M (mQi Γ (fun r L1 M1 => r = r_above a ∧ L1 = L ∧ M1 = M)) := by
  refine m_start (by decide) (Nat.le_of_ble_eq_true rfl) ?_
  intro p e s m args below meth c A ls X hr hlk hnm hw hS hl
  have hx := X.1.1
  have hb := X.1.2.1
  have hl : lv_has ls 1 [(0, .int a)] := hl
  refine lv_iload_n hx hb dX10_above_0 rfl (lv_at hl 0 rfl) ?_
  refine lv_if_eq (tgt := 9) hx hb dX10_above_1 (by decide) (fun c_1 => ?_) (fun c_1 => ?_)
  · skip
    refine lv_iconst (v := (-1)) hx hb dX10_above_9 (by decide) ?_
    refine lv_goto (tgt := 32) hx hb dX10_above_10 (by decide) ?_
    exact m_iret X hr hlk hw hS (Nat.zero_le _) (Nat.zero_le _) (⟨by clear hb hx hl hS hw hnm hlk hr X; first | rfl | (simp_all [bI, r_above]; done) | (simp_all [bI, r_above]; rfl), rfl, rfl⟩) dX10_above_32
  · skip
    refine lv_iload_n hx hb dX10_above_4 rfl (lv_at hl 0 rfl) ?_
    refine lv_iconst (v := 5) hx hb dX10_above_5 (by decide) ?_
    refine lv_icmp_le (tgt := 13) hx hb dX10_above_6 (by decide) (fun c_2 => ?_) (fun c_2 => ?_)
    · skip
      refine lv_iload_n hx hb dX10_above_13 rfl (lv_at hl 0 rfl) ?_
      refine lv_iconst (v := 1) hx hb dX10_above_14 (by decide) ?_
      refine lv_icmp_ne (tgt := 22) hx hb dX10_above_15 (by decide) (fun c_3 => ?_) (fun c_3 => ?_)
      · skip
        refine lv_iload_n hx hb dX10_above_22 rfl (lv_at hl 0 rfl) ?_
        refine lv_iconst (v := 4) hx hb dX10_above_23 (by decide) ?_
        refine lv_icmp_ne (tgt := 31) hx hb dX10_above_24 (by decide) (fun c_4 => ?_) (fun c_4 => ?_)
        · skip
          refine lv_iconst (v := 1) hx hb dX10_above_31 (by decide) ?_
          exact m_iret X hr hlk hw hS (Nat.zero_le _) (Nat.zero_le _) (⟨by clear hb hx hl hS hw hnm hlk hr X; first | rfl | (simp_all [bI, r_above]; done) | (simp_all [bI, r_above]; rfl), rfl, rfl⟩) dX10_above_32
        · skip
          refine lv_iconst (v := 2) hx hb dX10_above_27 (by decide) ?_
          refine lv_goto (tgt := 32) hx hb dX10_above_28 (by decide) ?_
          exact m_iret X hr hlk hw hS (Nat.zero_le _) (Nat.zero_le _) (⟨by clear hb hx hl hS hw hnm hlk hr X; first | rfl | (simp_all [bI, r_above]; done) | (simp_all [bI, r_above]; rfl), rfl, rfl⟩) dX10_above_32
      · skip
        refine lv_iconst (v := 0) hx hb dX10_above_18 (by decide) ?_
        refine lv_goto (tgt := 32) hx hb dX10_above_19 (by decide) ?_
        exact m_iret X hr hlk hw hS (Nat.zero_le _) (Nat.zero_le _) (⟨by clear hb hx hl hS hw hnm hlk hr X; first | rfl | (simp_all [bI, r_above]; done) | (simp_all [bI, r_above]; rfl), rfl, rfl⟩) dX10_above_32
    · skip
      refine lv_iconst (v := (-1)) hx hb dX10_above_9 (by decide) ?_
      refine lv_goto (tgt := 32) hx hb dX10_above_10 (by decide) ?_
      exact m_iret X hr hlk hw hS (Nat.zero_le _) (Nat.zero_le _) (⟨by clear hb hx hl hS hw hnm hlk hr X; first | rfl | (simp_all [bI, r_above]; done) | (simp_all [bI, r_above]; rfl), rfl, rfl⟩) dX10_above_32
theorem s_X10_isUnder : mSm yX10_isUnder cX10_isUnder 3 (some .boolean) 2 := ⟨cd_X10_isUnder, st_X10_isUnder, ini_X10, by decide, by decide, by decide +kernel⟩
set_option maxHeartbeats 4000000 in
set_option maxRecDepth 100000 in
theorem k_X10_isUnder (Γ : mG) (l : Launch) (L : mI → Nat) (M : mM) (a : Int32) (b : Int32) : mMet Γ l yX10_isUnder cX10_isUnder 3 (some .boolean) { frames := 1, cells := 0, slots := 0, locals := 20 } [.int a, .int b] L M (mQi Γ (fun r L1 M1 => r = bI (r_under a b) ∧ L1 = L ∧ M1 = M)) := by
  refine m_start (by decide) (Nat.le_of_ble_eq_true rfl) ?_
  intro p e s m args below meth c A ls X hr hlk hnm hw hS hl
  have hx := X.1.1
  have hb := X.1.2.1
  have hl : lv_has ls 3 [(0, .int a), (1, .int b)] := hl
  have KL : ∀ (n : Nat) (z : Int32) (H : Heap) (locs : List Loc) (ls : Array Slot), r_rk z ≤ n → r_under a b = r_up n z b → mW Γ.1 vwCl A L M H → va_S A s.heap H locs → lv_has ls 3 [(2, .int z), (0, .int a), (1, .int b)] → W p l e { frames := 1, cells := 0, slots := 0, locals := 20 } s m args below meth c H locs 0 0 (MQ below (mQi Γ (fun r L1 M1 => r = bI (r_under a b) ∧ L1 = L ∧ M1 = M) A) args s 0 0 A) (F0 m 57 ls []) := by
    intro n
    induction n with
    | zero =>
      intro z H locs ls hn he hw hS hl
      refine lv_iload_n hx hb dX10_isUnder_57 rfl (lv_at hl 0 rfl) ?_
      refine lv_iconst (v := (-1)) hx hb dX10_isUnder_58 (by decide) ?_
      refine lv_icmp_eq (tgt := 75) hx hb dX10_isUnder_59 (by decide) (fun c_1 => ?_) (fun c_1 => ?_)
      · skip
        refine lv_iload_n hx hb dX10_isUnder_75 rfl (lv_at hl 0 rfl) ?_
        refine lv_iload_n hx hb dX10_isUnder_76 rfl (lv_at hl 2 rfl) ?_
        refine lv_icmp_ne (tgt := 84) hx hb dX10_isUnder_77 (by decide) (fun c_2 => ?_) (fun c_2 => ?_)
        · skip
          refine lv_iconst (v := 0) hx hb dX10_isUnder_84 (by decide) ?_
          exact m_zret (b := r_under a b) X hr hlk hw hS (Nat.zero_le _) (Nat.zero_le _) (by rw [he]; clear he hb hx hl hS hw hnm hlk hr X; first | rfl | (simp_all [bI, r_up]; done) | (simp_all [bI, r_up]; rfl)) (⟨rfl, rfl, rfl⟩) dX10_isUnder_85
        · skip
          refine lv_iconst (v := 1) hx hb dX10_isUnder_80 (by decide) ?_
          refine lv_goto (tgt := 85) hx hb dX10_isUnder_81 (by decide) ?_
          exact m_zret (b := r_under a b) X hr hlk hw hS (Nat.zero_le _) (Nat.zero_le _) (by rw [he]; clear he hb hx hl hS hw hnm hlk hr X; first | rfl | (simp_all [bI, r_up]; done) | (simp_all [bI, r_up]; rfl)) (⟨rfl, rfl, rfl⟩) dX10_isUnder_85
      · skip
        refine lv_iload_n hx hb dX10_isUnder_62 rfl (lv_at hl 0 rfl) ?_
        refine lv_iload_n hx hb dX10_isUnder_63 rfl (lv_at hl 2 rfl) ?_
        refine lv_icmp_eq (tgt := 75) hx hb dX10_isUnder_64 (by decide) (fun c_3 => ?_) (fun c_3 => ?_)
        · skip
          refine lv_iload_n hx hb dX10_isUnder_75 rfl (lv_at hl 0 rfl) ?_
          refine lv_iload_n hx hb dX10_isUnder_76 rfl (lv_at hl 2 rfl) ?_
          refine lv_icmp_ne (tgt := 84) hx hb dX10_isUnder_77 (by decide) (fun c_4 => ?_) (fun c_4 => ?_)
          · skip
            refine lv_iconst (v := 0) hx hb dX10_isUnder_84 (by decide) ?_
            exact m_zret (b := r_under a b) X hr hlk hw hS (Nat.zero_le _) (Nat.zero_le _) (by rw [he]; clear he hb hx hl hS hw hnm hlk hr X; first | rfl | (simp_all [bI, r_up]; done) | (simp_all [bI, r_up]; rfl)) (⟨rfl, rfl, rfl⟩) dX10_isUnder_85
          · skip
            refine lv_iconst (v := 1) hx hb dX10_isUnder_80 (by decide) ?_
            refine lv_goto (tgt := 85) hx hb dX10_isUnder_81 (by decide) ?_
            exact m_zret (b := r_under a b) X hr hlk hw hS (Nat.zero_le _) (Nat.zero_le _) (by rw [he]; clear he hb hx hl hS hw hnm hlk hr X; first | rfl | (simp_all [bI, r_up]; done) | (simp_all [bI, r_up]; rfl)) (⟨rfl, rfl, rfl⟩) dX10_isUnder_85
        · skip
          refine lv_iload_n hx hb dX10_isUnder_67 rfl (lv_at hl 0 rfl) ?_
          refine m_calli (m_runS (As := [.int z]) (rest := []) X (k_X10_above Γ l L (M) z) s_X10_above ml_X10_83 hw hS rfl hl.1 ⟨Nat.le_of_ble_eq_true rfl, Nat.le_of_ble_eq_true rfl⟩ (Nat.le_of_ble_eq_true rfl) ⟨Nat.le_of_ble_eq_true rfl, Nat.le_of_ble_eq_true rfl⟩ dX10_isUnder_68) hS (fun r_6 L1 M1 H locs hp_5 hw hS => ?_)
          obtain ⟨rfl, e1, e2⟩ := hp_5
          rw [e1, e2] at hw; clear e1 e2
          refine lv_istore_n (lv' := [(2, .int (r_above z)), (0, .int a), (1, .int b)]) hx hb dX10_isUnder_71 rfl hl (by decide) rfl (fun ls hl => ?_)
          refine lv_goto (tgt := 57) hx hb dX10_isUnder_72 (by decide) ?_
          exact absurd hn (r_rk_pos c_1)
    | succ n ih =>
      intro z H locs ls hn he hw hS hl
      refine lv_iload_n hx hb dX10_isUnder_57 rfl (lv_at hl 0 rfl) ?_
      refine lv_iconst (v := (-1)) hx hb dX10_isUnder_58 (by decide) ?_
      refine lv_icmp_eq (tgt := 75) hx hb dX10_isUnder_59 (by decide) (fun c_7 => ?_) (fun c_7 => ?_)
      · skip
        refine lv_iload_n hx hb dX10_isUnder_75 rfl (lv_at hl 0 rfl) ?_
        refine lv_iload_n hx hb dX10_isUnder_76 rfl (lv_at hl 2 rfl) ?_
        refine lv_icmp_ne (tgt := 84) hx hb dX10_isUnder_77 (by decide) (fun c_8 => ?_) (fun c_8 => ?_)
        · skip
          refine lv_iconst (v := 0) hx hb dX10_isUnder_84 (by decide) ?_
          exact m_zret (b := r_under a b) X hr hlk hw hS (Nat.zero_le _) (Nat.zero_le _) (by rw [he]; clear he hb hx hl hS hw hnm hlk hr X; first | rfl | (simp_all [bI, r_up]; done) | (simp_all [bI, r_up]; rfl)) (⟨rfl, rfl, rfl⟩) dX10_isUnder_85
        · skip
          refine lv_iconst (v := 1) hx hb dX10_isUnder_80 (by decide) ?_
          refine lv_goto (tgt := 85) hx hb dX10_isUnder_81 (by decide) ?_
          exact m_zret (b := r_under a b) X hr hlk hw hS (Nat.zero_le _) (Nat.zero_le _) (by rw [he]; clear he hb hx hl hS hw hnm hlk hr X; first | rfl | (simp_all [bI, r_up]; done) | (simp_all [bI, r_up]; rfl)) (⟨rfl, rfl, rfl⟩) dX10_isUnder_85
      · skip
        refine lv_iload_n hx hb dX10_isUnder_62 rfl (lv_at hl 0 rfl) ?_
        refine lv_iload_n hx hb dX10_isUnder_63 rfl (lv_at hl 2 rfl) ?_
        refine lv_icmp_eq (tgt := 75) hx hb dX10_isUnder_64 (by decide) (fun c_9 => ?_) (fun c_9 => ?_)
        · skip
          refine lv_iload_n hx hb dX10_isUnder_75 rfl (lv_at hl 0 rfl) ?_
          refine lv_iload_n hx hb dX10_isUnder_76 rfl (lv_at hl 2 rfl) ?_
          refine lv_icmp_ne (tgt := 84) hx hb dX10_isUnder_77 (by decide) (fun c_10 => ?_) (fun c_10 => ?_)
          · skip
            refine lv_iconst (v := 0) hx hb dX10_isUnder_84 (by decide) ?_
            exact m_zret (b := r_under a b) X hr hlk hw hS (Nat.zero_le _) (Nat.zero_le _) (by rw [he]; clear he hb hx hl hS hw hnm hlk hr X; first | rfl | (simp_all [bI, r_up]; done) | (simp_all [bI, r_up]; rfl)) (⟨rfl, rfl, rfl⟩) dX10_isUnder_85
          · skip
            refine lv_iconst (v := 1) hx hb dX10_isUnder_80 (by decide) ?_
            refine lv_goto (tgt := 85) hx hb dX10_isUnder_81 (by decide) ?_
            exact m_zret (b := r_under a b) X hr hlk hw hS (Nat.zero_le _) (Nat.zero_le _) (by rw [he]; clear he hb hx hl hS hw hnm hlk hr X; first | rfl | (simp_all [bI, r_up]; done) | (simp_all [bI, r_up]; rfl)) (⟨rfl, rfl, rfl⟩) dX10_isUnder_85
        · skip
          refine lv_iload_n hx hb dX10_isUnder_67 rfl (lv_at hl 0 rfl) ?_
          refine m_calli (m_runS (As := [.int z]) (rest := []) X (k_X10_above Γ l L (M) z) s_X10_above ml_X10_83 hw hS rfl hl.1 ⟨Nat.le_of_ble_eq_true rfl, Nat.le_of_ble_eq_true rfl⟩ (Nat.le_of_ble_eq_true rfl) ⟨Nat.le_of_ble_eq_true rfl, Nat.le_of_ble_eq_true rfl⟩ dX10_isUnder_68) hS (fun r_12 L1 M1 H locs hp_11 hw hS => ?_)
          obtain ⟨rfl, e1, e2⟩ := hp_11
          rw [e1, e2] at hw; clear e1 e2
          refine lv_istore_n (lv' := [(2, .int (r_above z)), (0, .int a), (1, .int b)]) hx hb dX10_isUnder_71 rfl hl (by decide) rfl (fun ls hl => ?_)
          refine lv_goto (tgt := 57) hx hb dX10_isUnder_72 (by decide) ?_
          exact ih _ H locs ls (r_rk_dn c_7 hn) (by rw [he]; clear hb hx hl hS hw hnm hlk hr X he ih; simp_all [r_up]) hw hS hl
  refine lv_iload_n hx hb dX10_isUnder_0 rfl (lv_at hl 0 rfl) ?_
  refine lv_iload_n hx hb dX10_isUnder_1 rfl (lv_at hl 1 rfl) ?_
  refine lv_icmp_eq (tgt := 9) hx hb dX10_isUnder_2 (by decide) (fun c_13 => ?_) (fun c_13 => ?_)
  · skip
    refine lv_iconst (v := 1) hx hb dX10_isUnder_9 (by decide) ?_
    exact m_zret (b := r_under a b) X hr hlk hw hS (Nat.zero_le _) (Nat.zero_le _) (by clear KL hb hx hl hS hw hnm hlk hr X; first | rfl | (simp_all [bI, r_under]; done) | (simp_all [bI, r_under]; rfl)) (⟨rfl, rfl, rfl⟩) dX10_isUnder_10
  · skip
    refine lv_iload_n hx hb dX10_isUnder_5 rfl (lv_at hl 1 rfl) ?_
    refine lv_if_ne (tgt := 11) hx hb dX10_isUnder_6 (by decide) (fun c_14 => ?_) (fun c_14 => ?_)
    · skip
      refine lv_iload_n hx hb dX10_isUnder_11 rfl (lv_at hl 1 rfl) ?_
      refine lv_bipush (v := 6) hx hb dX10_isUnder_12 (by decide) ?_
      refine lv_icmp_ne (tgt := 33) hx hb dX10_isUnder_14 (by decide) (fun c_15 => ?_) (fun c_15 => ?_)
      · skip
        refine lv_iload_n hx hb dX10_isUnder_33 rfl (lv_at hl 1 rfl) ?_
        refine lv_bipush (v := 7) hx hb dX10_isUnder_34 (by decide) ?_
        refine lv_icmp_ne (tgt := 55) hx hb dX10_isUnder_36 (by decide) (fun c_16 => ?_) (fun c_16 => ?_)
        · skip
          refine lv_iload_n hx hb dX10_isUnder_55 rfl (lv_at hl 0 rfl) ?_
          refine lv_istore_n (lv' := [(2, .int a), (0, .int a), (1, .int b)]) hx hb dX10_isUnder_56 rfl hl (by decide) rfl (fun ls hl => ?_)
          exact KL 5 _ _ _ ls (r_rk5 _) (by clear KL hb hx hl hS hw hnm hlk hr X; simp_all [r_under]) hw hS hl
        · skip
          refine lv_iload_n hx hb dX10_isUnder_39 rfl (lv_at hl 0 rfl) ?_
          refine lv_iconst (v := 4) hx hb dX10_isUnder_40 (by decide) ?_
          refine lv_icmp_eq (tgt := 49) hx hb dX10_isUnder_41 (by decide) (fun c_17 => ?_) (fun c_17 => ?_)
          · skip
            refine lv_iconst (v := 1) hx hb dX10_isUnder_49 (by decide) ?_
            refine lv_goto (tgt := 54) hx hb dX10_isUnder_50 (by decide) ?_
            exact m_zret (b := r_under a b) X hr hlk hw hS (Nat.zero_le _) (Nat.zero_le _) (by clear KL hb hx hl hS hw hnm hlk hr X; first | rfl | (simp_all [bI, r_under]; done) | (simp_all [bI, r_under]; rfl)) (⟨rfl, rfl, rfl⟩) dX10_isUnder_54
          · skip
            refine lv_iload_n hx hb dX10_isUnder_44 rfl (lv_at hl 0 rfl) ?_
            refine lv_iconst (v := 5) hx hb dX10_isUnder_45 (by decide) ?_
            refine lv_icmp_ne (tgt := 53) hx hb dX10_isUnder_46 (by decide) (fun c_18 => ?_) (fun c_18 => ?_)
            · skip
              refine lv_iconst (v := 0) hx hb dX10_isUnder_53 (by decide) ?_
              exact m_zret (b := r_under a b) X hr hlk hw hS (Nat.zero_le _) (Nat.zero_le _) (by clear KL hb hx hl hS hw hnm hlk hr X; first | rfl | (simp_all [bI, r_under]; done) | (simp_all [bI, r_under]; rfl)) (⟨rfl, rfl, rfl⟩) dX10_isUnder_54
            · skip
              refine lv_iconst (v := 1) hx hb dX10_isUnder_49 (by decide) ?_
              refine lv_goto (tgt := 54) hx hb dX10_isUnder_50 (by decide) ?_
              exact m_zret (b := r_under a b) X hr hlk hw hS (Nat.zero_le _) (Nat.zero_le _) (by clear KL hb hx hl hS hw hnm hlk hr X; first | rfl | (simp_all [bI, r_under]; done) | (simp_all [bI, r_under]; rfl)) (⟨rfl, rfl, rfl⟩) dX10_isUnder_54
      · skip
        refine lv_iload_n hx hb dX10_isUnder_17 rfl (lv_at hl 0 rfl) ?_
        refine lv_iconst (v := 3) hx hb dX10_isUnder_18 (by decide) ?_
        refine lv_icmp_eq (tgt := 27) hx hb dX10_isUnder_19 (by decide) (fun c_19 => ?_) (fun c_19 => ?_)
        · skip
          refine lv_iconst (v := 1) hx hb dX10_isUnder_27 (by decide) ?_
          refine lv_goto (tgt := 32) hx hb dX10_isUnder_28 (by decide) ?_
          exact m_zret (b := r_under a b) X hr hlk hw hS (Nat.zero_le _) (Nat.zero_le _) (by clear KL hb hx hl hS hw hnm hlk hr X; first | rfl | (simp_all [bI, r_under]; done) | (simp_all [bI, r_under]; rfl)) (⟨rfl, rfl, rfl⟩) dX10_isUnder_32
        · skip
          refine lv_iload_n hx hb dX10_isUnder_22 rfl (lv_at hl 0 rfl) ?_
          refine lv_iconst (v := 4) hx hb dX10_isUnder_23 (by decide) ?_
          refine lv_icmp_ne (tgt := 31) hx hb dX10_isUnder_24 (by decide) (fun c_20 => ?_) (fun c_20 => ?_)
          · skip
            refine lv_iconst (v := 0) hx hb dX10_isUnder_31 (by decide) ?_
            exact m_zret (b := r_under a b) X hr hlk hw hS (Nat.zero_le _) (Nat.zero_le _) (by clear KL hb hx hl hS hw hnm hlk hr X; first | rfl | (simp_all [bI, r_under]; done) | (simp_all [bI, r_under]; rfl)) (⟨rfl, rfl, rfl⟩) dX10_isUnder_32
          · skip
            refine lv_iconst (v := 1) hx hb dX10_isUnder_27 (by decide) ?_
            refine lv_goto (tgt := 32) hx hb dX10_isUnder_28 (by decide) ?_
            exact m_zret (b := r_under a b) X hr hlk hw hS (Nat.zero_le _) (Nat.zero_le _) (by clear KL hb hx hl hS hw hnm hlk hr X; first | rfl | (simp_all [bI, r_under]; done) | (simp_all [bI, r_under]; rfl)) (⟨rfl, rfl, rfl⟩) dX10_isUnder_32
    · skip
      refine lv_iconst (v := 1) hx hb dX10_isUnder_9 (by decide) ?_
      exact m_zret (b := r_under a b) X hr hlk hw hS (Nat.zero_le _) (Nat.zero_le _) (by clear KL hb hx hl hS hw hnm hlk hr X; first | rfl | (simp_all [bI, r_under]; done) | (simp_all [bI, r_under]; rfl)) (⟨rfl, rfl, rfl⟩) dX10_isUnder_10
theorem s_X10_isObject : mSm yX10_isObject cX10_isObject 1 (some .boolean) 1 := ⟨cd_X10_isObject, st_X10_isObject, ini_X10, by decide, by decide, by decide +kernel⟩
set_option maxHeartbeats 4000000 in
set_option maxRecDepth 100000 in
theorem k_X10_isObject (Γ : mG) (l : Launch) (L : mI → Nat) (M : mM) (a : Int32) : mMet Γ l yX10_isObject cX10_isObject 1 (some .boolean) { frames := 1, cells := 0, slots := 0, locals := 25 } [.int a] L M (mQi Γ (fun r L1 M1 => r = bI (r_isObj a) ∧ L1 = L ∧ M1 = M)) := by
  refine m_start (by decide) (Nat.le_of_ble_eq_true rfl) ?_
  intro p e s m args below meth c A ls X hr hlk hnm hw hS hl
  have hx := X.1.1
  have hb := X.1.2.1
  have hl : lv_has ls 1 [(0, .int a)] := hl
  refine lv_iload_n hx hb dX10_isObject_0 rfl (lv_at hl 0 rfl) ?_
  refine lv_i2l (v := a.toInt64) hx hb dX10_isObject_1 rfl ?_
  refine lv_ldc2 (v := (10)) hx hb X.1.2.2.2.1 (X.1.2.2.2.2 _ kl_X10_87) dX10_isObject_2 ?_
  refine lv_ldc2 (v := (17)) hx hb X.1.2.2.2.1 (X.1.2.2.2.2 _ kl_X10_89) dX10_isObject_5 ?_
  refine m_calli (m_runS (As := [.long a.toInt64, .long (10), .long (17)]) (rest := []) X (k_X10_isIn Γ l L (M) a.toInt64 (10) (17)) s_X10_isIn ml_X10_79 hw hS rfl hl.1 ⟨Nat.le_of_ble_eq_true rfl, Nat.le_of_ble_eq_true rfl⟩ (Nat.le_of_ble_eq_true rfl) ⟨Nat.le_of_ble_eq_true rfl, Nat.le_of_ble_eq_true rfl⟩ dX10_isObject_8) hS (fun r_2 L1 M1 H locs hp_1 hw hS => ?_)
  obtain ⟨rfl, e1, e2⟩ := hp_1
  rw [e1, e2] at hw; clear e1 e2
  exact m_zret (b := r_isObj a) X hr hlk hw hS (Nat.zero_le _) (Nat.zero_le _) (by clear hb hx hl hS hw hnm hlk hr X; first | rfl | (simp_all [bI, r_isObj]; done) | (simp_all [bI, r_isObj]; rfl)) (⟨rfl, rfl, rfl⟩) dX10_isObject_11
theorem s_X10_isRow : mSm yX10_isRow cX10_isRow 1 (some .boolean) 1 := ⟨cd_X10_isRow, st_X10_isRow, ini_X10, by decide, by decide, by decide +kernel⟩
set_option maxHeartbeats 4000000 in
set_option maxRecDepth 100000 in
theorem k_X10_isRow (Γ : mG) (l : Launch) (L : mI → Nat) (M : mM) (a : Int32) : mMet Γ l yX10_isRow cX10_isRow 1 (some .boolean) { frames := 1, cells := 0, slots := 0, locals := 25 } [.int a] L M (mQi Γ (fun r L1 M1 => r = bI (r_isRow a) ∧ L1 = L ∧ M1 = M)) := by
  refine m_start (by decide) (Nat.le_of_ble_eq_true rfl) ?_
  intro p e s m args below meth c A ls X hr hlk hnm hw hS hl
  have hx := X.1.1
  have hb := X.1.2.1
  have hl : lv_has ls 1 [(0, .int a)] := hl
  refine lv_iload_n hx hb dX10_isRow_0 rfl (lv_at hl 0 rfl) ?_
  refine lv_i2l (v := a.toInt64) hx hb dX10_isRow_1 rfl ?_
  refine lv_ldc2 (v := (21)) hx hb X.1.2.2.2.1 (X.1.2.2.2.2 _ kl_X10_91) dX10_isRow_2 ?_
  refine lv_ldc2 (v := (25)) hx hb X.1.2.2.2.1 (X.1.2.2.2.2 _ kl_X10_93) dX10_isRow_5 ?_
  refine m_calli (m_runS (As := [.long a.toInt64, .long (21), .long (25)]) (rest := []) X (k_X10_isIn Γ l L (M) a.toInt64 (21) (25)) s_X10_isIn ml_X10_79 hw hS rfl hl.1 ⟨Nat.le_of_ble_eq_true rfl, Nat.le_of_ble_eq_true rfl⟩ (Nat.le_of_ble_eq_true rfl) ⟨Nat.le_of_ble_eq_true rfl, Nat.le_of_ble_eq_true rfl⟩ dX10_isRow_8) hS (fun r_2 L1 M1 H locs hp_1 hw hS => ?_)
  obtain ⟨rfl, e1, e2⟩ := hp_1
  rw [e1, e2] at hw; clear e1 e2
  exact m_zret (b := r_isRow a) X hr hlk hw hS (Nat.zero_le _) (Nat.zero_le _) (by clear hb hx hl hS hw hnm hlk hr X; first | rfl | (simp_all [bI, r_isRow]; done) | (simp_all [bI, r_isRow]; rfl)) (⟨rfl, rfl, rfl⟩) dX10_isRow_11
theorem s_X10_isThing : mSm yX10_isThing cX10_isThing 1 (some .boolean) 1 := ⟨cd_X10_isThing, st_X10_isThing, ini_X10, by decide, by decide, by decide +kernel⟩
set_option maxHeartbeats 4000000 in
set_option maxRecDepth 100000 in
theorem k_X10_isThing (Γ : mG) (l : Launch) (L : mI → Nat) (M : mM) (a : Int32) : mMet Γ l yX10_isThing cX10_isThing 1 (some .boolean) { frames := 2, cells := 0, slots := 0, locals := 45 } [.int a] L M (mQi Γ (fun r L1 M1 => r = bI (r_isThing a) ∧ L1 = L ∧ M1 = M)) := by
  refine m_start (by decide) (Nat.le_of_ble_eq_true rfl) ?_
  intro p e s m args below meth c A ls X hr hlk hnm hw hS hl
  have hx := X.1.1
  have hb := X.1.2.1
  have hl : lv_has ls 1 [(0, .int a)] := hl
  refine lv_iload_n hx hb dX10_isThing_0 rfl (lv_at hl 0 rfl) ?_
  refine lv_iconst (v := 5) hx hb dX10_isThing_1 (by decide) ?_
  refine lv_icmp_eq (tgt := 19) hx hb dX10_isThing_2 (by decide) (fun c_1 => ?_) (fun c_1 => ?_)
  · skip
    refine lv_iconst (v := 1) hx hb dX10_isThing_19 (by decide) ?_
    refine lv_goto (tgt := 24) hx hb dX10_isThing_20 (by decide) ?_
    exact m_zret (b := r_isThing a) X hr hlk hw hS (Nat.zero_le _) (Nat.zero_le _) (by clear hb hx hl hS hw hnm hlk hr X; first | rfl | (simp_all [bI, r_isThing]; done) | (simp_all [bI, r_isThing]; rfl)) (⟨rfl, rfl, rfl⟩) dX10_isThing_24
  · skip
    refine lv_iload_n hx hb dX10_isThing_5 rfl (lv_at hl 0 rfl) ?_
    refine m_calli (m_runS (As := [.int a]) (rest := []) X (k_X10_isObject Γ l L (M) a) s_X10_isObject ml_X10_95 hw hS rfl hl.1 ⟨Nat.le_of_ble_eq_true rfl, Nat.le_of_ble_eq_true rfl⟩ (Nat.le_of_ble_eq_true rfl) ⟨Nat.le_of_ble_eq_true rfl, Nat.le_of_ble_eq_true rfl⟩ dX10_isThing_6) hS (fun r_3 L1 M1 H locs hp_2 hw hS => ?_)
    obtain ⟨rfl, e1, e2⟩ := hp_2
    rw [e1, e2] at hw; clear e1 e2
    refine lv_if_ne (tgt := 19) hx hb dX10_isThing_9 (by decide) (fun c_4 => ?_) (fun c_4 => ?_)
    · skip
      have c_4 := bI_t c_4
      refine lv_iconst (v := 1) hx hb dX10_isThing_19 (by decide) ?_
      refine lv_goto (tgt := 24) hx hb dX10_isThing_20 (by decide) ?_
      exact m_zret (b := r_isThing a) X hr hlk hw hS (Nat.zero_le _) (Nat.zero_le _) (by clear hb hx hl hS hw hnm hlk hr X; first | rfl | (simp_all [bI, r_isThing]; done) | (simp_all [bI, r_isThing]; rfl)) (⟨rfl, rfl, rfl⟩) dX10_isThing_24
    · skip
      have c_4 := bI_f c_4
      refine lv_iload_n hx hb dX10_isThing_12 rfl (lv_at hl 0 rfl) ?_
      refine m_calli (m_runS (As := [.int a]) (rest := []) X (k_X10_isRow Γ l L (M) a) s_X10_isRow ml_X10_99 hw hS rfl hl.1 ⟨Nat.le_of_ble_eq_true rfl, Nat.le_of_ble_eq_true rfl⟩ (Nat.le_of_ble_eq_true rfl) ⟨Nat.le_of_ble_eq_true rfl, Nat.le_of_ble_eq_true rfl⟩ dX10_isThing_13) hS (fun r_6 L1 M1 H locs hp_5 hw hS => ?_)
      obtain ⟨rfl, e1, e2⟩ := hp_5
      rw [e1, e2] at hw; clear e1 e2
      refine lv_if_eq (tgt := 23) hx hb dX10_isThing_16 (by decide) (fun c_7 => ?_) (fun c_7 => ?_)
      · skip
        have c_7 := bI_f c_7
        refine lv_iconst (v := 0) hx hb dX10_isThing_23 (by decide) ?_
        exact m_zret (b := r_isThing a) X hr hlk hw hS (Nat.zero_le _) (Nat.zero_le _) (by clear hb hx hl hS hw hnm hlk hr X; first | rfl | (simp_all [bI, r_isThing]; done) | (simp_all [bI, r_isThing]; rfl)) (⟨rfl, rfl, rfl⟩) dX10_isThing_24
      · skip
        have c_7 := bI_t c_7
        refine lv_iconst (v := 1) hx hb dX10_isThing_19 (by decide) ?_
        refine lv_goto (tgt := 24) hx hb dX10_isThing_20 (by decide) ?_
        exact m_zret (b := r_isThing a) X hr hlk hw hS (Nat.zero_le _) (Nat.zero_le _) (by clear hb hx hl hS hw hnm hlk hr X; first | rfl | (simp_all [bI, r_isThing]; done) | (simp_all [bI, r_isThing]; rfl)) (⟨rfl, rfl, rfl⟩) dX10_isThing_24
theorem s_X10_isKind : mSm yX10_isKind cX10_isKind 1 (some .boolean) 1 := ⟨cd_X10_isKind, st_X10_isKind, ini_X10, by decide, by decide, by decide +kernel⟩
set_option maxHeartbeats 4000000 in
set_option maxRecDepth 100000 in
theorem k_X10_isKind (Γ : mG) (l : Launch) (L : mI → Nat) (M : mM) (a : Int32) : mMet Γ l yX10_isKind cX10_isKind 1 (some .boolean) { frames := 2, cells := 0, slots := 0, locals := 45 } [.int a] L M (mQi Γ (fun r L1 M1 => r = bI (r_isKind a) ∧ L1 = L ∧ M1 = M)) := by
  refine m_start (by decide) (Nat.le_of_ble_eq_true rfl) ?_
  intro p e s m args below meth c A ls X hr hlk hnm hw hS hl
  have hx := X.1.1
  have hb := X.1.2.1
  have hl : lv_has ls 1 [(0, .int a)] := hl
  refine lv_iload_n hx hb dX10_isKind_0 rfl (lv_at hl 0 rfl) ?_
  refine lv_i2l (v := a.toInt64) hx hb dX10_isKind_1 rfl ?_
  refine lv_lconst (v := 0) hx hb dX10_isKind_2 (by decide) ?_
  refine lv_ldc2 (v := (5)) hx hb X.1.2.2.2.1 (X.1.2.2.2.2 _ kl_X10_102) dX10_isKind_3 ?_
  refine m_calli (m_runS (As := [.long a.toInt64, .long 0, .long (5)]) (rest := []) X (k_X10_isIn Γ l L (M) a.toInt64 0 (5)) s_X10_isIn ml_X10_79 hw hS rfl hl.1 ⟨Nat.le_of_ble_eq_true rfl, Nat.le_of_ble_eq_true rfl⟩ (Nat.le_of_ble_eq_true rfl) ⟨Nat.le_of_ble_eq_true rfl, Nat.le_of_ble_eq_true rfl⟩ dX10_isKind_6) hS (fun r_2 L1 M1 H locs hp_1 hw hS => ?_)
  obtain ⟨rfl, e1, e2⟩ := hp_1
  rw [e1, e2] at hw; clear e1 e2
  refine lv_if_ne (tgt := 40) hx hb dX10_isKind_9 (by decide) (fun c_3 => ?_) (fun c_3 => ?_)
  · skip
    have c_3 := bI_t c_3
    refine lv_iconst (v := 1) hx hb dX10_isKind_40 (by decide) ?_
    refine lv_goto (tgt := 45) hx hb dX10_isKind_41 (by decide) ?_
    exact m_zret (b := r_isKind a) X hr hlk hw hS (Nat.zero_le _) (Nat.zero_le _) (by clear hb hx hl hS hw hnm hlk hr X; first | rfl | (simp_all [bI, r_isKind]; done) | (simp_all [bI, r_isKind]; rfl)) (⟨rfl, rfl, rfl⟩) dX10_isKind_45
  · skip
    have c_3 := bI_f c_3
    refine lv_iload_n hx hb dX10_isKind_12 rfl (lv_at hl 0 rfl) ?_
    refine m_calli (m_runS (As := [.int a]) (rest := []) X (k_X10_isObject Γ l L (M) a) s_X10_isObject ml_X10_95 hw hS rfl hl.1 ⟨Nat.le_of_ble_eq_true rfl, Nat.le_of_ble_eq_true rfl⟩ (Nat.le_of_ble_eq_true rfl) ⟨Nat.le_of_ble_eq_true rfl, Nat.le_of_ble_eq_true rfl⟩ dX10_isKind_13) hS (fun r_5 L1 M1 H locs hp_4 hw hS => ?_)
    obtain ⟨rfl, e1, e2⟩ := hp_4
    rw [e1, e2] at hw; clear e1 e2
    refine lv_if_ne (tgt := 40) hx hb dX10_isKind_16 (by decide) (fun c_6 => ?_) (fun c_6 => ?_)
    · skip
      have c_6 := bI_t c_6
      refine lv_iconst (v := 1) hx hb dX10_isKind_40 (by decide) ?_
      refine lv_goto (tgt := 45) hx hb dX10_isKind_41 (by decide) ?_
      exact m_zret (b := r_isKind a) X hr hlk hw hS (Nat.zero_le _) (Nat.zero_le _) (by clear hb hx hl hS hw hnm hlk hr X; first | rfl | (simp_all [bI, r_isKind]; done) | (simp_all [bI, r_isKind]; rfl)) (⟨rfl, rfl, rfl⟩) dX10_isKind_45
    · skip
      have c_6 := bI_f c_6
      refine lv_iload_n hx hb dX10_isKind_19 rfl (lv_at hl 0 rfl) ?_
      refine m_calli (m_runS (As := [.int a]) (rest := []) X (k_X10_isRow Γ l L (M) a) s_X10_isRow ml_X10_99 hw hS rfl hl.1 ⟨Nat.le_of_ble_eq_true rfl, Nat.le_of_ble_eq_true rfl⟩ (Nat.le_of_ble_eq_true rfl) ⟨Nat.le_of_ble_eq_true rfl, Nat.le_of_ble_eq_true rfl⟩ dX10_isKind_20) hS (fun r_8 L1 M1 H locs hp_7 hw hS => ?_)
      obtain ⟨rfl, e1, e2⟩ := hp_7
      rw [e1, e2] at hw; clear e1 e2
      refine lv_if_ne (tgt := 40) hx hb dX10_isKind_23 (by decide) (fun c_9 => ?_) (fun c_9 => ?_)
      · skip
        have c_9 := bI_t c_9
        refine lv_iconst (v := 1) hx hb dX10_isKind_40 (by decide) ?_
        refine lv_goto (tgt := 45) hx hb dX10_isKind_41 (by decide) ?_
        exact m_zret (b := r_isKind a) X hr hlk hw hS (Nat.zero_le _) (Nat.zero_le _) (by clear hb hx hl hS hw hnm hlk hr X; first | rfl | (simp_all [bI, r_isKind]; done) | (simp_all [bI, r_isKind]; rfl)) (⟨rfl, rfl, rfl⟩) dX10_isKind_45
      · skip
        have c_9 := bI_f c_9
        refine lv_iload_n hx hb dX10_isKind_26 rfl (lv_at hl 0 rfl) ?_
        refine lv_i2l (v := a.toInt64) hx hb dX10_isKind_27 rfl ?_
        refine lv_ldc2 (v := (100)) hx hb X.1.2.2.2.1 (X.1.2.2.2.2 _ kl_X10_104) dX10_isKind_28 ?_
        refine lv_ldc2 (v := (139)) hx hb X.1.2.2.2.1 (X.1.2.2.2.2 _ kl_X10_106) dX10_isKind_31 ?_
        refine m_calli (m_runS (As := [.long a.toInt64, .long (100), .long (139)]) (rest := []) X (k_X10_isIn Γ l L (M) a.toInt64 (100) (139)) s_X10_isIn ml_X10_79 hw hS rfl hl.1 ⟨Nat.le_of_ble_eq_true rfl, Nat.le_of_ble_eq_true rfl⟩ (Nat.le_of_ble_eq_true rfl) ⟨Nat.le_of_ble_eq_true rfl, Nat.le_of_ble_eq_true rfl⟩ dX10_isKind_34) hS (fun r_11 L1 M1 H locs hp_10 hw hS => ?_)
        obtain ⟨rfl, e1, e2⟩ := hp_10
        rw [e1, e2] at hw; clear e1 e2
        refine lv_if_eq (tgt := 44) hx hb dX10_isKind_37 (by decide) (fun c_12 => ?_) (fun c_12 => ?_)
        · skip
          have c_12 := bI_f c_12
          refine lv_iconst (v := 0) hx hb dX10_isKind_44 (by decide) ?_
          exact m_zret (b := r_isKind a) X hr hlk hw hS (Nat.zero_le _) (Nat.zero_le _) (by clear hb hx hl hS hw hnm hlk hr X; first | rfl | (simp_all [bI, r_isKind]; done) | (simp_all [bI, r_isKind]; rfl)) (⟨rfl, rfl, rfl⟩) dX10_isKind_45
        · skip
          have c_12 := bI_t c_12
          refine lv_iconst (v := 1) hx hb dX10_isKind_40 (by decide) ?_
          refine lv_goto (tgt := 45) hx hb dX10_isKind_41 (by decide) ?_
          exact m_zret (b := r_isKind a) X hr hlk hw hS (Nat.zero_le _) (Nat.zero_le _) (by clear hb hx hl hS hw hnm hlk hr X; first | rfl | (simp_all [bI, r_isKind]; done) | (simp_all [bI, r_isKind]; rfl)) (⟨rfl, rfl, rfl⟩) dX10_isKind_45
theorem s_X10_goes : mSm yX10_goes cX10_goes 2 (some .boolean) 2 := ⟨cd_X10_goes, st_X10_goes, ini_X10, by decide, by decide, by decide +kernel⟩
set_option maxHeartbeats 4000000 in
set_option maxRecDepth 100000 in
theorem k_X10_goes (Γ : mG) (l : Launch) (L : mI → Nat) (M : mM) (a : Int32) (b : Int32) : mMet Γ l yX10_goes cX10_goes 2 (some .boolean) { frames := 3, cells := 0, slots := 0, locals := 65 } [.int a, .int b] L M (mQi Γ (fun r L1 M1 => r = bI (r_goes a b) ∧ L1 = L ∧ M1 = M)) := by
  refine m_start (by decide) (Nat.le_of_ble_eq_true rfl) ?_
  intro p e s m args below meth c A ls X hr hlk hnm hw hS hl
  have hx := X.1.1
  have hb := X.1.2.1
  have hl : lv_has ls 2 [(0, .int a), (1, .int b)] := hl
  refine lv_iload_n hx hb dX10_goes_0 rfl (lv_at hl 0 rfl) ?_
  refine lv_iload_n hx hb dX10_goes_1 rfl (lv_at hl 1 rfl) ?_
  refine lv_icmp_eq (tgt := 9) hx hb dX10_goes_2 (by decide) (fun c_1 => ?_) (fun c_1 => ?_)
  · skip
    refine lv_iconst (v := 1) hx hb dX10_goes_9 (by decide) ?_
    exact m_zret (b := r_goes a b) X hr hlk hw hS (Nat.zero_le _) (Nat.zero_le _) (by clear hb hx hl hS hw hnm hlk hr X; first | rfl | (simp_all [bI, r_goes]; done) | (simp_all [bI, r_goes]; rfl)) (⟨rfl, rfl, rfl⟩) dX10_goes_10
  · skip
    refine lv_iload_n hx hb dX10_goes_5 rfl (lv_at hl 1 rfl) ?_
    refine lv_if_ne (tgt := 11) hx hb dX10_goes_6 (by decide) (fun c_2 => ?_) (fun c_2 => ?_)
    · skip
      refine lv_iload_n hx hb dX10_goes_11 rfl (lv_at hl 0 rfl) ?_
      refine lv_iconst (v := 4) hx hb dX10_goes_12 (by decide) ?_
      refine lv_icmp_ne (tgt := 21) hx hb dX10_goes_13 (by decide) (fun c_3 => ?_) (fun c_3 => ?_)
      · skip
        refine lv_iload_n hx hb dX10_goes_21 rfl (lv_at hl 0 rfl) ?_
        refine m_calli (m_runS (As := [.int a]) (rest := []) X (k_X10_isObject Γ l L (M) a) s_X10_isObject ml_X10_95 hw hS rfl hl.1 ⟨Nat.le_of_ble_eq_true rfl, Nat.le_of_ble_eq_true rfl⟩ (Nat.le_of_ble_eq_true rfl) ⟨Nat.le_of_ble_eq_true rfl, Nat.le_of_ble_eq_true rfl⟩ dX10_goes_22) hS (fun r_5 L1 M1 H locs hp_4 hw hS => ?_)
        obtain ⟨rfl, e1, e2⟩ := hp_4
        rw [e1, e2] at hw; clear e1 e2
        refine lv_if_eq (tgt := 61) hx hb dX10_goes_25 (by decide) (fun c_6 => ?_) (fun c_6 => ?_)
        · skip
          have c_6 := bI_f c_6
          refine lv_iload_n hx hb dX10_goes_61 rfl (lv_at hl 0 rfl) ?_
          refine lv_iconst (v := 5) hx hb dX10_goes_62 (by decide) ?_
          refine lv_icmp_eq (tgt := 73) hx hb dX10_goes_63 (by decide) (fun c_7 => ?_) (fun c_7 => ?_)
          · skip
            refine lv_iload_n hx hb dX10_goes_73 rfl (lv_at hl 1 rfl) ?_
            refine m_calli (m_runS (As := [.int b]) (rest := []) X (k_X10_isObject Γ l L (M) b) s_X10_isObject ml_X10_95 hw hS rfl hl.1 ⟨Nat.le_of_ble_eq_true rfl, Nat.le_of_ble_eq_true rfl⟩ (Nat.le_of_ble_eq_true rfl) ⟨Nat.le_of_ble_eq_true rfl, Nat.le_of_ble_eq_true rfl⟩ dX10_goes_74) hS (fun r_9 L1 M1 H locs hp_8 hw hS => ?_)
            obtain ⟨rfl, e1, e2⟩ := hp_8
            rw [e1, e2] at hw; clear e1 e2
            refine lv_if_eq (tgt := 98) hx hb dX10_goes_77 (by decide) (fun c_10 => ?_) (fun c_10 => ?_)
            · skip
              have c_10 := bI_f c_10
              refine lv_iload_n hx hb dX10_goes_98 rfl (lv_at hl 0 rfl) ?_
              refine m_calli (m_runS (As := [.int a]) (rest := []) X (k_X10_isRow Γ l L (M) a) s_X10_isRow ml_X10_99 hw hS rfl hl.1 ⟨Nat.le_of_ble_eq_true rfl, Nat.le_of_ble_eq_true rfl⟩ (Nat.le_of_ble_eq_true rfl) ⟨Nat.le_of_ble_eq_true rfl, Nat.le_of_ble_eq_true rfl⟩ dX10_goes_99) hS (fun r_12 L1 M1 H locs hp_11 hw hS => ?_)
              obtain ⟨rfl, e1, e2⟩ := hp_11
              rw [e1, e2] at hw; clear e1 e2
              refine lv_if_eq (tgt := 130) hx hb dX10_goes_102 (by decide) (fun c_13 => ?_) (fun c_13 => ?_)
              · skip
                have c_13 := bI_f c_13
                refine lv_iconst (v := 0) hx hb dX10_goes_130 (by decide) ?_
                exact m_zret (b := r_goes a b) X hr hlk hw hS (Nat.zero_le _) (Nat.zero_le _) (by clear hb hx hl hS hw hnm hlk hr X; first | rfl | (simp_all [bI, r_goes]; done) | (simp_all [bI, r_goes]; rfl)) (⟨rfl, rfl, rfl⟩) dX10_goes_131
              · skip
                have c_13 := bI_t c_13
                refine lv_iload_n hx hb dX10_goes_105 rfl (lv_at hl 1 rfl) ?_
                refine m_calli (m_runS (As := [.int b]) (rest := []) X (k_X10_isRow Γ l L (M) b) s_X10_isRow ml_X10_99 hw hS rfl hl.1 ⟨Nat.le_of_ble_eq_true rfl, Nat.le_of_ble_eq_true rfl⟩ (Nat.le_of_ble_eq_true rfl) ⟨Nat.le_of_ble_eq_true rfl, Nat.le_of_ble_eq_true rfl⟩ dX10_goes_106) hS (fun r_15 L1 M1 H locs hp_14 hw hS => ?_)
                obtain ⟨rfl, e1, e2⟩ := hp_14
                rw [e1, e2] at hw; clear e1 e2
                refine lv_if_eq (tgt := 130) hx hb dX10_goes_109 (by decide) (fun c_16 => ?_) (fun c_16 => ?_)
                · skip
                  have c_16 := bI_f c_16
                  refine lv_iconst (v := 0) hx hb dX10_goes_130 (by decide) ?_
                  exact m_zret (b := r_goes a b) X hr hlk hw hS (Nat.zero_le _) (Nat.zero_le _) (by clear hb hx hl hS hw hnm hlk hr X; first | rfl | (simp_all [bI, r_goes]; done) | (simp_all [bI, r_goes]; rfl)) (⟨rfl, rfl, rfl⟩) dX10_goes_131
                · skip
                  have c_16 := bI_t c_16
                  refine lv_iload_n hx hb dX10_goes_112 rfl (lv_at hl 0 rfl) ?_
                  refine lv_bipush (v := 20) hx hb dX10_goes_113 (by decide) ?_
                  refine lv_isub hx hb dX10_goes_115 ?_
                  refine lv_iload_n hx hb dX10_goes_116 rfl (lv_at hl 1 rfl) ?_
                  refine lv_bipush (v := 20) hx hb dX10_goes_117 (by decide) ?_
                  refine lv_isub hx hb dX10_goes_119 ?_
                  refine m_calli (m_runS (As := [.int (a - 20), .int (b - 20)]) (rest := []) X (k_X10_isUnder Γ l L (M) (a - 20) (b - 20)) s_X10_isUnder ml_X10_111 hw hS rfl hl.1 ⟨Nat.le_of_ble_eq_true rfl, Nat.le_of_ble_eq_true rfl⟩ (Nat.le_of_ble_eq_true rfl) ⟨Nat.le_of_ble_eq_true rfl, Nat.le_of_ble_eq_true rfl⟩ dX10_goes_120) hS (fun r_18 L1 M1 H locs hp_17 hw hS => ?_)
                  obtain ⟨rfl, e1, e2⟩ := hp_17
                  rw [e1, e2] at hw; clear e1 e2
                  refine lv_if_eq (tgt := 130) hx hb dX10_goes_123 (by decide) (fun c_19 => ?_) (fun c_19 => ?_)
                  · skip
                    have c_19 := bI_f c_19
                    refine lv_iconst (v := 0) hx hb dX10_goes_130 (by decide) ?_
                    exact m_zret (b := r_goes a b) X hr hlk hw hS (Nat.zero_le _) (Nat.zero_le _) (by clear hb hx hl hS hw hnm hlk hr X; first | rfl | (simp_all [bI, r_goes]; done) | (simp_all [bI, r_goes]; rfl)) (⟨rfl, rfl, rfl⟩) dX10_goes_131
                  · skip
                    have c_19 := bI_t c_19
                    refine lv_iconst (v := 1) hx hb dX10_goes_126 (by decide) ?_
                    refine lv_goto (tgt := 131) hx hb dX10_goes_127 (by decide) ?_
                    exact m_zret (b := r_goes a b) X hr hlk hw hS (Nat.zero_le _) (Nat.zero_le _) (by clear hb hx hl hS hw hnm hlk hr X; first | rfl | (simp_all [bI, r_goes]; done) | (simp_all [bI, r_goes]; rfl)) (⟨rfl, rfl, rfl⟩) dX10_goes_131
            · skip
              have c_10 := bI_t c_10
              refine lv_iload_n hx hb dX10_goes_80 rfl (lv_at hl 1 rfl) ?_
              refine lv_bipush (v := 10) hx hb dX10_goes_81 (by decide) ?_
              refine lv_icmp_eq (tgt := 92) hx hb dX10_goes_83 (by decide) (fun c_20 => ?_) (fun c_20 => ?_)
              · skip
                refine lv_iconst (v := 1) hx hb dX10_goes_92 (by decide) ?_
                refine lv_goto (tgt := 97) hx hb dX10_goes_93 (by decide) ?_
                exact m_zret (b := r_goes a b) X hr hlk hw hS (Nat.zero_le _) (Nat.zero_le _) (by clear hb hx hl hS hw hnm hlk hr X; first | rfl | (simp_all [bI, r_goes]; done) | (simp_all [bI, r_goes]; rfl)) (⟨rfl, rfl, rfl⟩) dX10_goes_97
              · skip
                refine lv_iload_n hx hb dX10_goes_86 rfl (lv_at hl 1 rfl) ?_
                refine lv_bipush (v := 15) hx hb dX10_goes_87 (by decide) ?_
                refine lv_icmp_le (tgt := 96) hx hb dX10_goes_89 (by decide) (fun c_21 => ?_) (fun c_21 => ?_)
                · skip
                  refine lv_iconst (v := 0) hx hb dX10_goes_96 (by decide) ?_
                  exact m_zret (b := r_goes a b) X hr hlk hw hS (Nat.zero_le _) (Nat.zero_le _) (by clear hb hx hl hS hw hnm hlk hr X; first | rfl | (simp_all [bI, r_goes]; done) | (simp_all [bI, r_goes]; rfl)) (⟨rfl, rfl, rfl⟩) dX10_goes_97
                · skip
                  refine lv_iconst (v := 1) hx hb dX10_goes_92 (by decide) ?_
                  refine lv_goto (tgt := 97) hx hb dX10_goes_93 (by decide) ?_
                  exact m_zret (b := r_goes a b) X hr hlk hw hS (Nat.zero_le _) (Nat.zero_le _) (by clear hb hx hl hS hw hnm hlk hr X; first | rfl | (simp_all [bI, r_goes]; done) | (simp_all [bI, r_goes]; rfl)) (⟨rfl, rfl, rfl⟩) dX10_goes_97
          · skip
            refine lv_iload_n hx hb dX10_goes_66 rfl (lv_at hl 0 rfl) ?_
            refine m_calli (m_runS (As := [.int a]) (rest := []) X (k_X10_isRow Γ l L (M) a) s_X10_isRow ml_X10_99 hw hS rfl hl.1 ⟨Nat.le_of_ble_eq_true rfl, Nat.le_of_ble_eq_true rfl⟩ (Nat.le_of_ble_eq_true rfl) ⟨Nat.le_of_ble_eq_true rfl, Nat.le_of_ble_eq_true rfl⟩ dX10_goes_67) hS (fun r_23 L1 M1 H locs hp_22 hw hS => ?_)
            obtain ⟨rfl, e1, e2⟩ := hp_22
            rw [e1, e2] at hw; clear e1 e2
            refine lv_if_eq (tgt := 98) hx hb dX10_goes_70 (by decide) (fun c_24 => ?_) (fun c_24 => ?_)
            · skip
              have c_24 := bI_f c_24
              refine lv_iload_n hx hb dX10_goes_98 rfl (lv_at hl 0 rfl) ?_
              refine m_calli (m_runS (As := [.int a]) (rest := []) X (k_X10_isRow Γ l L (M) a) s_X10_isRow ml_X10_99 hw hS rfl hl.1 ⟨Nat.le_of_ble_eq_true rfl, Nat.le_of_ble_eq_true rfl⟩ (Nat.le_of_ble_eq_true rfl) ⟨Nat.le_of_ble_eq_true rfl, Nat.le_of_ble_eq_true rfl⟩ dX10_goes_99) hS (fun r_26 L1 M1 H locs hp_25 hw hS => ?_)
              obtain ⟨rfl, e1, e2⟩ := hp_25
              rw [e1, e2] at hw; clear e1 e2
              refine lv_if_eq (tgt := 130) hx hb dX10_goes_102 (by decide) (fun c_27 => ?_) (fun c_27 => ?_)
              · skip
                have c_27 := bI_f c_27
                refine lv_iconst (v := 0) hx hb dX10_goes_130 (by decide) ?_
                exact m_zret (b := r_goes a b) X hr hlk hw hS (Nat.zero_le _) (Nat.zero_le _) (by clear hb hx hl hS hw hnm hlk hr X; first | rfl | (simp_all [bI, r_goes]; done) | (simp_all [bI, r_goes]; rfl)) (⟨rfl, rfl, rfl⟩) dX10_goes_131
              · skip
                have c_27 := bI_t c_27
                refine lv_iload_n hx hb dX10_goes_105 rfl (lv_at hl 1 rfl) ?_
                refine m_calli (m_runS (As := [.int b]) (rest := []) X (k_X10_isRow Γ l L (M) b) s_X10_isRow ml_X10_99 hw hS rfl hl.1 ⟨Nat.le_of_ble_eq_true rfl, Nat.le_of_ble_eq_true rfl⟩ (Nat.le_of_ble_eq_true rfl) ⟨Nat.le_of_ble_eq_true rfl, Nat.le_of_ble_eq_true rfl⟩ dX10_goes_106) hS (fun r_29 L1 M1 H locs hp_28 hw hS => ?_)
                obtain ⟨rfl, e1, e2⟩ := hp_28
                rw [e1, e2] at hw; clear e1 e2
                refine lv_if_eq (tgt := 130) hx hb dX10_goes_109 (by decide) (fun c_30 => ?_) (fun c_30 => ?_)
                · skip
                  have c_30 := bI_f c_30
                  refine lv_iconst (v := 0) hx hb dX10_goes_130 (by decide) ?_
                  exact m_zret (b := r_goes a b) X hr hlk hw hS (Nat.zero_le _) (Nat.zero_le _) (by clear hb hx hl hS hw hnm hlk hr X; first | rfl | (simp_all [bI, r_goes]; done) | (simp_all [bI, r_goes]; rfl)) (⟨rfl, rfl, rfl⟩) dX10_goes_131
                · skip
                  have c_30 := bI_t c_30
                  refine lv_iload_n hx hb dX10_goes_112 rfl (lv_at hl 0 rfl) ?_
                  refine lv_bipush (v := 20) hx hb dX10_goes_113 (by decide) ?_
                  refine lv_isub hx hb dX10_goes_115 ?_
                  refine lv_iload_n hx hb dX10_goes_116 rfl (lv_at hl 1 rfl) ?_
                  refine lv_bipush (v := 20) hx hb dX10_goes_117 (by decide) ?_
                  refine lv_isub hx hb dX10_goes_119 ?_
                  refine m_calli (m_runS (As := [.int (a - 20), .int (b - 20)]) (rest := []) X (k_X10_isUnder Γ l L (M) (a - 20) (b - 20)) s_X10_isUnder ml_X10_111 hw hS rfl hl.1 ⟨Nat.le_of_ble_eq_true rfl, Nat.le_of_ble_eq_true rfl⟩ (Nat.le_of_ble_eq_true rfl) ⟨Nat.le_of_ble_eq_true rfl, Nat.le_of_ble_eq_true rfl⟩ dX10_goes_120) hS (fun r_32 L1 M1 H locs hp_31 hw hS => ?_)
                  obtain ⟨rfl, e1, e2⟩ := hp_31
                  rw [e1, e2] at hw; clear e1 e2
                  refine lv_if_eq (tgt := 130) hx hb dX10_goes_123 (by decide) (fun c_33 => ?_) (fun c_33 => ?_)
                  · skip
                    have c_33 := bI_f c_33
                    refine lv_iconst (v := 0) hx hb dX10_goes_130 (by decide) ?_
                    exact m_zret (b := r_goes a b) X hr hlk hw hS (Nat.zero_le _) (Nat.zero_le _) (by clear hb hx hl hS hw hnm hlk hr X; first | rfl | (simp_all [bI, r_goes]; done) | (simp_all [bI, r_goes]; rfl)) (⟨rfl, rfl, rfl⟩) dX10_goes_131
                  · skip
                    have c_33 := bI_t c_33
                    refine lv_iconst (v := 1) hx hb dX10_goes_126 (by decide) ?_
                    refine lv_goto (tgt := 131) hx hb dX10_goes_127 (by decide) ?_
                    exact m_zret (b := r_goes a b) X hr hlk hw hS (Nat.zero_le _) (Nat.zero_le _) (by clear hb hx hl hS hw hnm hlk hr X; first | rfl | (simp_all [bI, r_goes]; done) | (simp_all [bI, r_goes]; rfl)) (⟨rfl, rfl, rfl⟩) dX10_goes_131
            · skip
              have c_24 := bI_t c_24
              refine lv_iload_n hx hb dX10_goes_73 rfl (lv_at hl 1 rfl) ?_
              refine m_calli (m_runS (As := [.int b]) (rest := []) X (k_X10_isObject Γ l L (M) b) s_X10_isObject ml_X10_95 hw hS rfl hl.1 ⟨Nat.le_of_ble_eq_true rfl, Nat.le_of_ble_eq_true rfl⟩ (Nat.le_of_ble_eq_true rfl) ⟨Nat.le_of_ble_eq_true rfl, Nat.le_of_ble_eq_true rfl⟩ dX10_goes_74) hS (fun r_35 L1 M1 H locs hp_34 hw hS => ?_)
              obtain ⟨rfl, e1, e2⟩ := hp_34
              rw [e1, e2] at hw; clear e1 e2
              refine lv_if_eq (tgt := 98) hx hb dX10_goes_77 (by decide) (fun c_36 => ?_) (fun c_36 => ?_)
              · skip
                have c_36 := bI_f c_36
                refine lv_iload_n hx hb dX10_goes_98 rfl (lv_at hl 0 rfl) ?_
                refine m_calli (m_runS (As := [.int a]) (rest := []) X (k_X10_isRow Γ l L (M) a) s_X10_isRow ml_X10_99 hw hS rfl hl.1 ⟨Nat.le_of_ble_eq_true rfl, Nat.le_of_ble_eq_true rfl⟩ (Nat.le_of_ble_eq_true rfl) ⟨Nat.le_of_ble_eq_true rfl, Nat.le_of_ble_eq_true rfl⟩ dX10_goes_99) hS (fun r_38 L1 M1 H locs hp_37 hw hS => ?_)
                obtain ⟨rfl, e1, e2⟩ := hp_37
                rw [e1, e2] at hw; clear e1 e2
                refine lv_if_eq (tgt := 130) hx hb dX10_goes_102 (by decide) (fun c_39 => ?_) (fun c_39 => ?_)
                · skip
                  have c_39 := bI_f c_39
                  refine lv_iconst (v := 0) hx hb dX10_goes_130 (by decide) ?_
                  exact m_zret (b := r_goes a b) X hr hlk hw hS (Nat.zero_le _) (Nat.zero_le _) (by clear hb hx hl hS hw hnm hlk hr X; first | rfl | (simp_all [bI, r_goes]; done) | (simp_all [bI, r_goes]; rfl)) (⟨rfl, rfl, rfl⟩) dX10_goes_131
                · skip
                  have c_39 := bI_t c_39
                  refine lv_iload_n hx hb dX10_goes_105 rfl (lv_at hl 1 rfl) ?_
                  refine m_calli (m_runS (As := [.int b]) (rest := []) X (k_X10_isRow Γ l L (M) b) s_X10_isRow ml_X10_99 hw hS rfl hl.1 ⟨Nat.le_of_ble_eq_true rfl, Nat.le_of_ble_eq_true rfl⟩ (Nat.le_of_ble_eq_true rfl) ⟨Nat.le_of_ble_eq_true rfl, Nat.le_of_ble_eq_true rfl⟩ dX10_goes_106) hS (fun r_41 L1 M1 H locs hp_40 hw hS => ?_)
                  obtain ⟨rfl, e1, e2⟩ := hp_40
                  rw [e1, e2] at hw; clear e1 e2
                  refine lv_if_eq (tgt := 130) hx hb dX10_goes_109 (by decide) (fun c_42 => ?_) (fun c_42 => ?_)
                  · skip
                    have c_42 := bI_f c_42
                    refine lv_iconst (v := 0) hx hb dX10_goes_130 (by decide) ?_
                    exact m_zret (b := r_goes a b) X hr hlk hw hS (Nat.zero_le _) (Nat.zero_le _) (by clear hb hx hl hS hw hnm hlk hr X; first | rfl | (simp_all [bI, r_goes]; done) | (simp_all [bI, r_goes]; rfl)) (⟨rfl, rfl, rfl⟩) dX10_goes_131
                  · skip
                    have c_42 := bI_t c_42
                    refine lv_iload_n hx hb dX10_goes_112 rfl (lv_at hl 0 rfl) ?_
                    refine lv_bipush (v := 20) hx hb dX10_goes_113 (by decide) ?_
                    refine lv_isub hx hb dX10_goes_115 ?_
                    refine lv_iload_n hx hb dX10_goes_116 rfl (lv_at hl 1 rfl) ?_
                    refine lv_bipush (v := 20) hx hb dX10_goes_117 (by decide) ?_
                    refine lv_isub hx hb dX10_goes_119 ?_
                    refine m_calli (m_runS (As := [.int (a - 20), .int (b - 20)]) (rest := []) X (k_X10_isUnder Γ l L (M) (a - 20) (b - 20)) s_X10_isUnder ml_X10_111 hw hS rfl hl.1 ⟨Nat.le_of_ble_eq_true rfl, Nat.le_of_ble_eq_true rfl⟩ (Nat.le_of_ble_eq_true rfl) ⟨Nat.le_of_ble_eq_true rfl, Nat.le_of_ble_eq_true rfl⟩ dX10_goes_120) hS (fun r_44 L1 M1 H locs hp_43 hw hS => ?_)
                    obtain ⟨rfl, e1, e2⟩ := hp_43
                    rw [e1, e2] at hw; clear e1 e2
                    refine lv_if_eq (tgt := 130) hx hb dX10_goes_123 (by decide) (fun c_45 => ?_) (fun c_45 => ?_)
                    · skip
                      have c_45 := bI_f c_45
                      refine lv_iconst (v := 0) hx hb dX10_goes_130 (by decide) ?_
                      exact m_zret (b := r_goes a b) X hr hlk hw hS (Nat.zero_le _) (Nat.zero_le _) (by clear hb hx hl hS hw hnm hlk hr X; first | rfl | (simp_all [bI, r_goes]; done) | (simp_all [bI, r_goes]; rfl)) (⟨rfl, rfl, rfl⟩) dX10_goes_131
                    · skip
                      have c_45 := bI_t c_45
                      refine lv_iconst (v := 1) hx hb dX10_goes_126 (by decide) ?_
                      refine lv_goto (tgt := 131) hx hb dX10_goes_127 (by decide) ?_
                      exact m_zret (b := r_goes a b) X hr hlk hw hS (Nat.zero_le _) (Nat.zero_le _) (by clear hb hx hl hS hw hnm hlk hr X; first | rfl | (simp_all [bI, r_goes]; done) | (simp_all [bI, r_goes]; rfl)) (⟨rfl, rfl, rfl⟩) dX10_goes_131
              · skip
                have c_36 := bI_t c_36
                refine lv_iload_n hx hb dX10_goes_80 rfl (lv_at hl 1 rfl) ?_
                refine lv_bipush (v := 10) hx hb dX10_goes_81 (by decide) ?_
                refine lv_icmp_eq (tgt := 92) hx hb dX10_goes_83 (by decide) (fun c_46 => ?_) (fun c_46 => ?_)
                · skip
                  refine lv_iconst (v := 1) hx hb dX10_goes_92 (by decide) ?_
                  refine lv_goto (tgt := 97) hx hb dX10_goes_93 (by decide) ?_
                  exact m_zret (b := r_goes a b) X hr hlk hw hS (Nat.zero_le _) (Nat.zero_le _) (by clear hb hx hl hS hw hnm hlk hr X; first | rfl | (simp_all [bI, r_goes]; done) | (simp_all [bI, r_goes]; rfl)) (⟨rfl, rfl, rfl⟩) dX10_goes_97
                · skip
                  refine lv_iload_n hx hb dX10_goes_86 rfl (lv_at hl 1 rfl) ?_
                  refine lv_bipush (v := 15) hx hb dX10_goes_87 (by decide) ?_
                  refine lv_icmp_le (tgt := 96) hx hb dX10_goes_89 (by decide) (fun c_47 => ?_) (fun c_47 => ?_)
                  · skip
                    refine lv_iconst (v := 0) hx hb dX10_goes_96 (by decide) ?_
                    exact m_zret (b := r_goes a b) X hr hlk hw hS (Nat.zero_le _) (Nat.zero_le _) (by clear hb hx hl hS hw hnm hlk hr X; first | rfl | (simp_all [bI, r_goes]; done) | (simp_all [bI, r_goes]; rfl)) (⟨rfl, rfl, rfl⟩) dX10_goes_97
                  · skip
                    refine lv_iconst (v := 1) hx hb dX10_goes_92 (by decide) ?_
                    refine lv_goto (tgt := 97) hx hb dX10_goes_93 (by decide) ?_
                    exact m_zret (b := r_goes a b) X hr hlk hw hS (Nat.zero_le _) (Nat.zero_le _) (by clear hb hx hl hS hw hnm hlk hr X; first | rfl | (simp_all [bI, r_goes]; done) | (simp_all [bI, r_goes]; rfl)) (⟨rfl, rfl, rfl⟩) dX10_goes_97
        · skip
          have c_6 := bI_t c_6
          refine lv_iload_n hx hb dX10_goes_28 rfl (lv_at hl 1 rfl) ?_
          refine m_calli (m_runS (As := [.int b]) (rest := []) X (k_X10_isObject Γ l L (M) b) s_X10_isObject ml_X10_95 hw hS rfl hl.1 ⟨Nat.le_of_ble_eq_true rfl, Nat.le_of_ble_eq_true rfl⟩ (Nat.le_of_ble_eq_true rfl) ⟨Nat.le_of_ble_eq_true rfl, Nat.le_of_ble_eq_true rfl⟩ dX10_goes_29) hS (fun r_49 L1 M1 H locs hp_48 hw hS => ?_)
          obtain ⟨rfl, e1, e2⟩ := hp_48
          rw [e1, e2] at hw; clear e1 e2
          refine lv_if_eq (tgt := 61) hx hb dX10_goes_32 (by decide) (fun c_50 => ?_) (fun c_50 => ?_)
          · skip
            have c_50 := bI_f c_50
            refine lv_iload_n hx hb dX10_goes_61 rfl (lv_at hl 0 rfl) ?_
            refine lv_iconst (v := 5) hx hb dX10_goes_62 (by decide) ?_
            refine lv_icmp_eq (tgt := 73) hx hb dX10_goes_63 (by decide) (fun c_51 => ?_) (fun c_51 => ?_)
            · skip
              refine lv_iload_n hx hb dX10_goes_73 rfl (lv_at hl 1 rfl) ?_
              refine m_calli (m_runS (As := [.int b]) (rest := []) X (k_X10_isObject Γ l L (M) b) s_X10_isObject ml_X10_95 hw hS rfl hl.1 ⟨Nat.le_of_ble_eq_true rfl, Nat.le_of_ble_eq_true rfl⟩ (Nat.le_of_ble_eq_true rfl) ⟨Nat.le_of_ble_eq_true rfl, Nat.le_of_ble_eq_true rfl⟩ dX10_goes_74) hS (fun r_53 L1 M1 H locs hp_52 hw hS => ?_)
              obtain ⟨rfl, e1, e2⟩ := hp_52
              rw [e1, e2] at hw; clear e1 e2
              refine lv_if_eq (tgt := 98) hx hb dX10_goes_77 (by decide) (fun c_54 => ?_) (fun c_54 => ?_)
              · skip
                have c_54 := bI_f c_54
                refine lv_iload_n hx hb dX10_goes_98 rfl (lv_at hl 0 rfl) ?_
                refine m_calli (m_runS (As := [.int a]) (rest := []) X (k_X10_isRow Γ l L (M) a) s_X10_isRow ml_X10_99 hw hS rfl hl.1 ⟨Nat.le_of_ble_eq_true rfl, Nat.le_of_ble_eq_true rfl⟩ (Nat.le_of_ble_eq_true rfl) ⟨Nat.le_of_ble_eq_true rfl, Nat.le_of_ble_eq_true rfl⟩ dX10_goes_99) hS (fun r_56 L1 M1 H locs hp_55 hw hS => ?_)
                obtain ⟨rfl, e1, e2⟩ := hp_55
                rw [e1, e2] at hw; clear e1 e2
                refine lv_if_eq (tgt := 130) hx hb dX10_goes_102 (by decide) (fun c_57 => ?_) (fun c_57 => ?_)
                · skip
                  have c_57 := bI_f c_57
                  refine lv_iconst (v := 0) hx hb dX10_goes_130 (by decide) ?_
                  exact m_zret (b := r_goes a b) X hr hlk hw hS (Nat.zero_le _) (Nat.zero_le _) (by clear hb hx hl hS hw hnm hlk hr X; first | rfl | (simp_all [bI, r_goes]; done) | (simp_all [bI, r_goes]; rfl)) (⟨rfl, rfl, rfl⟩) dX10_goes_131
                · skip
                  have c_57 := bI_t c_57
                  refine lv_iload_n hx hb dX10_goes_105 rfl (lv_at hl 1 rfl) ?_
                  refine m_calli (m_runS (As := [.int b]) (rest := []) X (k_X10_isRow Γ l L (M) b) s_X10_isRow ml_X10_99 hw hS rfl hl.1 ⟨Nat.le_of_ble_eq_true rfl, Nat.le_of_ble_eq_true rfl⟩ (Nat.le_of_ble_eq_true rfl) ⟨Nat.le_of_ble_eq_true rfl, Nat.le_of_ble_eq_true rfl⟩ dX10_goes_106) hS (fun r_59 L1 M1 H locs hp_58 hw hS => ?_)
                  obtain ⟨rfl, e1, e2⟩ := hp_58
                  rw [e1, e2] at hw; clear e1 e2
                  refine lv_if_eq (tgt := 130) hx hb dX10_goes_109 (by decide) (fun c_60 => ?_) (fun c_60 => ?_)
                  · skip
                    have c_60 := bI_f c_60
                    refine lv_iconst (v := 0) hx hb dX10_goes_130 (by decide) ?_
                    exact m_zret (b := r_goes a b) X hr hlk hw hS (Nat.zero_le _) (Nat.zero_le _) (by clear hb hx hl hS hw hnm hlk hr X; first | rfl | (simp_all [bI, r_goes]; done) | (simp_all [bI, r_goes]; rfl)) (⟨rfl, rfl, rfl⟩) dX10_goes_131
                  · skip
                    have c_60 := bI_t c_60
                    refine lv_iload_n hx hb dX10_goes_112 rfl (lv_at hl 0 rfl) ?_
                    refine lv_bipush (v := 20) hx hb dX10_goes_113 (by decide) ?_
                    refine lv_isub hx hb dX10_goes_115 ?_
                    refine lv_iload_n hx hb dX10_goes_116 rfl (lv_at hl 1 rfl) ?_
                    refine lv_bipush (v := 20) hx hb dX10_goes_117 (by decide) ?_
                    refine lv_isub hx hb dX10_goes_119 ?_
                    refine m_calli (m_runS (As := [.int (a - 20), .int (b - 20)]) (rest := []) X (k_X10_isUnder Γ l L (M) (a - 20) (b - 20)) s_X10_isUnder ml_X10_111 hw hS rfl hl.1 ⟨Nat.le_of_ble_eq_true rfl, Nat.le_of_ble_eq_true rfl⟩ (Nat.le_of_ble_eq_true rfl) ⟨Nat.le_of_ble_eq_true rfl, Nat.le_of_ble_eq_true rfl⟩ dX10_goes_120) hS (fun r_62 L1 M1 H locs hp_61 hw hS => ?_)
                    obtain ⟨rfl, e1, e2⟩ := hp_61
                    rw [e1, e2] at hw; clear e1 e2
                    refine lv_if_eq (tgt := 130) hx hb dX10_goes_123 (by decide) (fun c_63 => ?_) (fun c_63 => ?_)
                    · skip
                      have c_63 := bI_f c_63
                      refine lv_iconst (v := 0) hx hb dX10_goes_130 (by decide) ?_
                      exact m_zret (b := r_goes a b) X hr hlk hw hS (Nat.zero_le _) (Nat.zero_le _) (by clear hb hx hl hS hw hnm hlk hr X; first | rfl | (simp_all [bI, r_goes]; done) | (simp_all [bI, r_goes]; rfl)) (⟨rfl, rfl, rfl⟩) dX10_goes_131
                    · skip
                      have c_63 := bI_t c_63
                      refine lv_iconst (v := 1) hx hb dX10_goes_126 (by decide) ?_
                      refine lv_goto (tgt := 131) hx hb dX10_goes_127 (by decide) ?_
                      exact m_zret (b := r_goes a b) X hr hlk hw hS (Nat.zero_le _) (Nat.zero_le _) (by clear hb hx hl hS hw hnm hlk hr X; first | rfl | (simp_all [bI, r_goes]; done) | (simp_all [bI, r_goes]; rfl)) (⟨rfl, rfl, rfl⟩) dX10_goes_131
              · skip
                have c_54 := bI_t c_54
                refine lv_iload_n hx hb dX10_goes_80 rfl (lv_at hl 1 rfl) ?_
                refine lv_bipush (v := 10) hx hb dX10_goes_81 (by decide) ?_
                refine lv_icmp_eq (tgt := 92) hx hb dX10_goes_83 (by decide) (fun c_64 => ?_) (fun c_64 => ?_)
                · skip
                  refine lv_iconst (v := 1) hx hb dX10_goes_92 (by decide) ?_
                  refine lv_goto (tgt := 97) hx hb dX10_goes_93 (by decide) ?_
                  exact m_zret (b := r_goes a b) X hr hlk hw hS (Nat.zero_le _) (Nat.zero_le _) (by clear hb hx hl hS hw hnm hlk hr X; first | rfl | (simp_all [bI, r_goes]; done) | (simp_all [bI, r_goes]; rfl)) (⟨rfl, rfl, rfl⟩) dX10_goes_97
                · skip
                  refine lv_iload_n hx hb dX10_goes_86 rfl (lv_at hl 1 rfl) ?_
                  refine lv_bipush (v := 15) hx hb dX10_goes_87 (by decide) ?_
                  refine lv_icmp_le (tgt := 96) hx hb dX10_goes_89 (by decide) (fun c_65 => ?_) (fun c_65 => ?_)
                  · skip
                    refine lv_iconst (v := 0) hx hb dX10_goes_96 (by decide) ?_
                    exact m_zret (b := r_goes a b) X hr hlk hw hS (Nat.zero_le _) (Nat.zero_le _) (by clear hb hx hl hS hw hnm hlk hr X; first | rfl | (simp_all [bI, r_goes]; done) | (simp_all [bI, r_goes]; rfl)) (⟨rfl, rfl, rfl⟩) dX10_goes_97
                  · skip
                    refine lv_iconst (v := 1) hx hb dX10_goes_92 (by decide) ?_
                    refine lv_goto (tgt := 97) hx hb dX10_goes_93 (by decide) ?_
                    exact m_zret (b := r_goes a b) X hr hlk hw hS (Nat.zero_le _) (Nat.zero_le _) (by clear hb hx hl hS hw hnm hlk hr X; first | rfl | (simp_all [bI, r_goes]; done) | (simp_all [bI, r_goes]; rfl)) (⟨rfl, rfl, rfl⟩) dX10_goes_97
            · skip
              refine lv_iload_n hx hb dX10_goes_66 rfl (lv_at hl 0 rfl) ?_
              refine m_calli (m_runS (As := [.int a]) (rest := []) X (k_X10_isRow Γ l L (M) a) s_X10_isRow ml_X10_99 hw hS rfl hl.1 ⟨Nat.le_of_ble_eq_true rfl, Nat.le_of_ble_eq_true rfl⟩ (Nat.le_of_ble_eq_true rfl) ⟨Nat.le_of_ble_eq_true rfl, Nat.le_of_ble_eq_true rfl⟩ dX10_goes_67) hS (fun r_67 L1 M1 H locs hp_66 hw hS => ?_)
              obtain ⟨rfl, e1, e2⟩ := hp_66
              rw [e1, e2] at hw; clear e1 e2
              refine lv_if_eq (tgt := 98) hx hb dX10_goes_70 (by decide) (fun c_68 => ?_) (fun c_68 => ?_)
              · skip
                have c_68 := bI_f c_68
                refine lv_iload_n hx hb dX10_goes_98 rfl (lv_at hl 0 rfl) ?_
                refine m_calli (m_runS (As := [.int a]) (rest := []) X (k_X10_isRow Γ l L (M) a) s_X10_isRow ml_X10_99 hw hS rfl hl.1 ⟨Nat.le_of_ble_eq_true rfl, Nat.le_of_ble_eq_true rfl⟩ (Nat.le_of_ble_eq_true rfl) ⟨Nat.le_of_ble_eq_true rfl, Nat.le_of_ble_eq_true rfl⟩ dX10_goes_99) hS (fun r_70 L1 M1 H locs hp_69 hw hS => ?_)
                obtain ⟨rfl, e1, e2⟩ := hp_69
                rw [e1, e2] at hw; clear e1 e2
                refine lv_if_eq (tgt := 130) hx hb dX10_goes_102 (by decide) (fun c_71 => ?_) (fun c_71 => ?_)
                · skip
                  have c_71 := bI_f c_71
                  refine lv_iconst (v := 0) hx hb dX10_goes_130 (by decide) ?_
                  exact m_zret (b := r_goes a b) X hr hlk hw hS (Nat.zero_le _) (Nat.zero_le _) (by clear hb hx hl hS hw hnm hlk hr X; first | rfl | (simp_all [bI, r_goes]; done) | (simp_all [bI, r_goes]; rfl)) (⟨rfl, rfl, rfl⟩) dX10_goes_131
                · skip
                  have c_71 := bI_t c_71
                  refine lv_iload_n hx hb dX10_goes_105 rfl (lv_at hl 1 rfl) ?_
                  refine m_calli (m_runS (As := [.int b]) (rest := []) X (k_X10_isRow Γ l L (M) b) s_X10_isRow ml_X10_99 hw hS rfl hl.1 ⟨Nat.le_of_ble_eq_true rfl, Nat.le_of_ble_eq_true rfl⟩ (Nat.le_of_ble_eq_true rfl) ⟨Nat.le_of_ble_eq_true rfl, Nat.le_of_ble_eq_true rfl⟩ dX10_goes_106) hS (fun r_73 L1 M1 H locs hp_72 hw hS => ?_)
                  obtain ⟨rfl, e1, e2⟩ := hp_72
                  rw [e1, e2] at hw; clear e1 e2
                  refine lv_if_eq (tgt := 130) hx hb dX10_goes_109 (by decide) (fun c_74 => ?_) (fun c_74 => ?_)
                  · skip
                    have c_74 := bI_f c_74
                    refine lv_iconst (v := 0) hx hb dX10_goes_130 (by decide) ?_
                    exact m_zret (b := r_goes a b) X hr hlk hw hS (Nat.zero_le _) (Nat.zero_le _) (by clear hb hx hl hS hw hnm hlk hr X; first | rfl | (simp_all [bI, r_goes]; done) | (simp_all [bI, r_goes]; rfl)) (⟨rfl, rfl, rfl⟩) dX10_goes_131
                  · skip
                    have c_74 := bI_t c_74
                    refine lv_iload_n hx hb dX10_goes_112 rfl (lv_at hl 0 rfl) ?_
                    refine lv_bipush (v := 20) hx hb dX10_goes_113 (by decide) ?_
                    refine lv_isub hx hb dX10_goes_115 ?_
                    refine lv_iload_n hx hb dX10_goes_116 rfl (lv_at hl 1 rfl) ?_
                    refine lv_bipush (v := 20) hx hb dX10_goes_117 (by decide) ?_
                    refine lv_isub hx hb dX10_goes_119 ?_
                    refine m_calli (m_runS (As := [.int (a - 20), .int (b - 20)]) (rest := []) X (k_X10_isUnder Γ l L (M) (a - 20) (b - 20)) s_X10_isUnder ml_X10_111 hw hS rfl hl.1 ⟨Nat.le_of_ble_eq_true rfl, Nat.le_of_ble_eq_true rfl⟩ (Nat.le_of_ble_eq_true rfl) ⟨Nat.le_of_ble_eq_true rfl, Nat.le_of_ble_eq_true rfl⟩ dX10_goes_120) hS (fun r_76 L1 M1 H locs hp_75 hw hS => ?_)
                    obtain ⟨rfl, e1, e2⟩ := hp_75
                    rw [e1, e2] at hw; clear e1 e2
                    refine lv_if_eq (tgt := 130) hx hb dX10_goes_123 (by decide) (fun c_77 => ?_) (fun c_77 => ?_)
                    · skip
                      have c_77 := bI_f c_77
                      refine lv_iconst (v := 0) hx hb dX10_goes_130 (by decide) ?_
                      exact m_zret (b := r_goes a b) X hr hlk hw hS (Nat.zero_le _) (Nat.zero_le _) (by clear hb hx hl hS hw hnm hlk hr X; first | rfl | (simp_all [bI, r_goes]; done) | (simp_all [bI, r_goes]; rfl)) (⟨rfl, rfl, rfl⟩) dX10_goes_131
                    · skip
                      have c_77 := bI_t c_77
                      refine lv_iconst (v := 1) hx hb dX10_goes_126 (by decide) ?_
                      refine lv_goto (tgt := 131) hx hb dX10_goes_127 (by decide) ?_
                      exact m_zret (b := r_goes a b) X hr hlk hw hS (Nat.zero_le _) (Nat.zero_le _) (by clear hb hx hl hS hw hnm hlk hr X; first | rfl | (simp_all [bI, r_goes]; done) | (simp_all [bI, r_goes]; rfl)) (⟨rfl, rfl, rfl⟩) dX10_goes_131
              · skip
                have c_68 := bI_t c_68
                refine lv_iload_n hx hb dX10_goes_73 rfl (lv_at hl 1 rfl) ?_
                refine m_calli (m_runS (As := [.int b]) (rest := []) X (k_X10_isObject Γ l L (M) b) s_X10_isObject ml_X10_95 hw hS rfl hl.1 ⟨Nat.le_of_ble_eq_true rfl, Nat.le_of_ble_eq_true rfl⟩ (Nat.le_of_ble_eq_true rfl) ⟨Nat.le_of_ble_eq_true rfl, Nat.le_of_ble_eq_true rfl⟩ dX10_goes_74) hS (fun r_79 L1 M1 H locs hp_78 hw hS => ?_)
                obtain ⟨rfl, e1, e2⟩ := hp_78
                rw [e1, e2] at hw; clear e1 e2
                refine lv_if_eq (tgt := 98) hx hb dX10_goes_77 (by decide) (fun c_80 => ?_) (fun c_80 => ?_)
                · skip
                  have c_80 := bI_f c_80
                  refine lv_iload_n hx hb dX10_goes_98 rfl (lv_at hl 0 rfl) ?_
                  refine m_calli (m_runS (As := [.int a]) (rest := []) X (k_X10_isRow Γ l L (M) a) s_X10_isRow ml_X10_99 hw hS rfl hl.1 ⟨Nat.le_of_ble_eq_true rfl, Nat.le_of_ble_eq_true rfl⟩ (Nat.le_of_ble_eq_true rfl) ⟨Nat.le_of_ble_eq_true rfl, Nat.le_of_ble_eq_true rfl⟩ dX10_goes_99) hS (fun r_82 L1 M1 H locs hp_81 hw hS => ?_)
                  obtain ⟨rfl, e1, e2⟩ := hp_81
                  rw [e1, e2] at hw; clear e1 e2
                  refine lv_if_eq (tgt := 130) hx hb dX10_goes_102 (by decide) (fun c_83 => ?_) (fun c_83 => ?_)
                  · skip
                    have c_83 := bI_f c_83
                    refine lv_iconst (v := 0) hx hb dX10_goes_130 (by decide) ?_
                    exact m_zret (b := r_goes a b) X hr hlk hw hS (Nat.zero_le _) (Nat.zero_le _) (by clear hb hx hl hS hw hnm hlk hr X; first | rfl | (simp_all [bI, r_goes]; done) | (simp_all [bI, r_goes]; rfl)) (⟨rfl, rfl, rfl⟩) dX10_goes_131
                  · skip
                    have c_83 := bI_t c_83
                    refine lv_iload_n hx hb dX10_goes_105 rfl (lv_at hl 1 rfl) ?_
                    refine m_calli (m_runS (As := [.int b]) (rest := []) X (k_X10_isRow Γ l L (M) b) s_X10_isRow ml_X10_99 hw hS rfl hl.1 ⟨Nat.le_of_ble_eq_true rfl, Nat.le_of_ble_eq_true rfl⟩ (Nat.le_of_ble_eq_true rfl) ⟨Nat.le_of_ble_eq_true rfl, Nat.le_of_ble_eq_true rfl⟩ dX10_goes_106) hS (fun r_85 L1 M1 H locs hp_84 hw hS => ?_)
                    obtain ⟨rfl, e1, e2⟩ := hp_84
                    rw [e1, e2] at hw; clear e1 e2
                    refine lv_if_eq (tgt := 130) hx hb dX10_goes_109 (by decide) (fun c_86 => ?_) (fun c_86 => ?_)
                    · skip
                      have c_86 := bI_f c_86
                      refine lv_iconst (v := 0) hx hb dX10_goes_130 (by decide) ?_
                      exact m_zret (b := r_goes a b) X hr hlk hw hS (Nat.zero_le _) (Nat.zero_le _) (by clear hb hx hl hS hw hnm hlk hr X; first | rfl | (simp_all [bI, r_goes]; done) | (simp_all [bI, r_goes]; rfl)) (⟨rfl, rfl, rfl⟩) dX10_goes_131
                    · skip
                      have c_86 := bI_t c_86
                      refine lv_iload_n hx hb dX10_goes_112 rfl (lv_at hl 0 rfl) ?_
                      refine lv_bipush (v := 20) hx hb dX10_goes_113 (by decide) ?_
                      refine lv_isub hx hb dX10_goes_115 ?_
                      refine lv_iload_n hx hb dX10_goes_116 rfl (lv_at hl 1 rfl) ?_
                      refine lv_bipush (v := 20) hx hb dX10_goes_117 (by decide) ?_
                      refine lv_isub hx hb dX10_goes_119 ?_
                      refine m_calli (m_runS (As := [.int (a - 20), .int (b - 20)]) (rest := []) X (k_X10_isUnder Γ l L (M) (a - 20) (b - 20)) s_X10_isUnder ml_X10_111 hw hS rfl hl.1 ⟨Nat.le_of_ble_eq_true rfl, Nat.le_of_ble_eq_true rfl⟩ (Nat.le_of_ble_eq_true rfl) ⟨Nat.le_of_ble_eq_true rfl, Nat.le_of_ble_eq_true rfl⟩ dX10_goes_120) hS (fun r_88 L1 M1 H locs hp_87 hw hS => ?_)
                      obtain ⟨rfl, e1, e2⟩ := hp_87
                      rw [e1, e2] at hw; clear e1 e2
                      refine lv_if_eq (tgt := 130) hx hb dX10_goes_123 (by decide) (fun c_89 => ?_) (fun c_89 => ?_)
                      · skip
                        have c_89 := bI_f c_89
                        refine lv_iconst (v := 0) hx hb dX10_goes_130 (by decide) ?_
                        exact m_zret (b := r_goes a b) X hr hlk hw hS (Nat.zero_le _) (Nat.zero_le _) (by clear hb hx hl hS hw hnm hlk hr X; first | rfl | (simp_all [bI, r_goes]; done) | (simp_all [bI, r_goes]; rfl)) (⟨rfl, rfl, rfl⟩) dX10_goes_131
                      · skip
                        have c_89 := bI_t c_89
                        refine lv_iconst (v := 1) hx hb dX10_goes_126 (by decide) ?_
                        refine lv_goto (tgt := 131) hx hb dX10_goes_127 (by decide) ?_
                        exact m_zret (b := r_goes a b) X hr hlk hw hS (Nat.zero_le _) (Nat.zero_le _) (by clear hb hx hl hS hw hnm hlk hr X; first | rfl | (simp_all [bI, r_goes]; done) | (simp_all [bI, r_goes]; rfl)) (⟨rfl, rfl, rfl⟩) dX10_goes_131
                · skip
                  have c_80 := bI_t c_80
                  refine lv_iload_n hx hb dX10_goes_80 rfl (lv_at hl 1 rfl) ?_
                  refine lv_bipush (v := 10) hx hb dX10_goes_81 (by decide) ?_
                  refine lv_icmp_eq (tgt := 92) hx hb dX10_goes_83 (by decide) (fun c_90 => ?_) (fun c_90 => ?_)
                  · skip
                    refine lv_iconst (v := 1) hx hb dX10_goes_92 (by decide) ?_
                    refine lv_goto (tgt := 97) hx hb dX10_goes_93 (by decide) ?_
                    exact m_zret (b := r_goes a b) X hr hlk hw hS (Nat.zero_le _) (Nat.zero_le _) (by clear hb hx hl hS hw hnm hlk hr X; first | rfl | (simp_all [bI, r_goes]; done) | (simp_all [bI, r_goes]; rfl)) (⟨rfl, rfl, rfl⟩) dX10_goes_97
                  · skip
                    refine lv_iload_n hx hb dX10_goes_86 rfl (lv_at hl 1 rfl) ?_
                    refine lv_bipush (v := 15) hx hb dX10_goes_87 (by decide) ?_
                    refine lv_icmp_le (tgt := 96) hx hb dX10_goes_89 (by decide) (fun c_91 => ?_) (fun c_91 => ?_)
                    · skip
                      refine lv_iconst (v := 0) hx hb dX10_goes_96 (by decide) ?_
                      exact m_zret (b := r_goes a b) X hr hlk hw hS (Nat.zero_le _) (Nat.zero_le _) (by clear hb hx hl hS hw hnm hlk hr X; first | rfl | (simp_all [bI, r_goes]; done) | (simp_all [bI, r_goes]; rfl)) (⟨rfl, rfl, rfl⟩) dX10_goes_97
                    · skip
                      refine lv_iconst (v := 1) hx hb dX10_goes_92 (by decide) ?_
                      refine lv_goto (tgt := 97) hx hb dX10_goes_93 (by decide) ?_
                      exact m_zret (b := r_goes a b) X hr hlk hw hS (Nat.zero_le _) (Nat.zero_le _) (by clear hb hx hl hS hw hnm hlk hr X; first | rfl | (simp_all [bI, r_goes]; done) | (simp_all [bI, r_goes]; rfl)) (⟨rfl, rfl, rfl⟩) dX10_goes_97
          · skip
            have c_50 := bI_t c_50
            refine lv_iload_n hx hb dX10_goes_35 rfl (lv_at hl 1 rfl) ?_
            refine lv_bipush (v := 15) hx hb dX10_goes_36 (by decide) ?_
            refine lv_icmp_gt (tgt := 55) hx hb dX10_goes_38 (by decide) (fun c_92 => ?_) (fun c_92 => ?_)
            · skip
              refine lv_iconst (v := 1) hx hb dX10_goes_55 (by decide) ?_
              refine lv_goto (tgt := 60) hx hb dX10_goes_56 (by decide) ?_
              exact m_zret (b := r_goes a b) X hr hlk hw hS (Nat.zero_le _) (Nat.zero_le _) (by clear hb hx hl hS hw hnm hlk hr X; first | rfl | (simp_all [bI, r_goes]; done) | (simp_all [bI, r_goes]; rfl)) (⟨rfl, rfl, rfl⟩) dX10_goes_60
            · skip
              refine lv_iload_n hx hb dX10_goes_41 rfl (lv_at hl 0 rfl) ?_
              refine lv_bipush (v := 10) hx hb dX10_goes_42 (by decide) ?_
              refine lv_isub hx hb dX10_goes_44 ?_
              refine lv_iload_n hx hb dX10_goes_45 rfl (lv_at hl 1 rfl) ?_
              refine lv_bipush (v := 10) hx hb dX10_goes_46 (by decide) ?_
              refine lv_isub hx hb dX10_goes_48 ?_
              refine m_calli (m_runS (As := [.int (a - 10), .int (b - 10)]) (rest := []) X (k_X10_isUnder Γ l L (M) (a - 10) (b - 10)) s_X10_isUnder ml_X10_111 hw hS rfl hl.1 ⟨Nat.le_of_ble_eq_true rfl, Nat.le_of_ble_eq_true rfl⟩ (Nat.le_of_ble_eq_true rfl) ⟨Nat.le_of_ble_eq_true rfl, Nat.le_of_ble_eq_true rfl⟩ dX10_goes_49) hS (fun r_94 L1 M1 H locs hp_93 hw hS => ?_)
              obtain ⟨rfl, e1, e2⟩ := hp_93
              rw [e1, e2] at hw; clear e1 e2
              refine lv_if_eq (tgt := 59) hx hb dX10_goes_52 (by decide) (fun c_95 => ?_) (fun c_95 => ?_)
              · skip
                have c_95 := bI_f c_95
                refine lv_iconst (v := 0) hx hb dX10_goes_59 (by decide) ?_
                exact m_zret (b := r_goes a b) X hr hlk hw hS (Nat.zero_le _) (Nat.zero_le _) (by clear hb hx hl hS hw hnm hlk hr X; first | rfl | (simp_all [bI, r_goes]; done) | (simp_all [bI, r_goes]; rfl)) (⟨rfl, rfl, rfl⟩) dX10_goes_60
              · skip
                have c_95 := bI_t c_95
                refine lv_iconst (v := 1) hx hb dX10_goes_55 (by decide) ?_
                refine lv_goto (tgt := 60) hx hb dX10_goes_56 (by decide) ?_
                exact m_zret (b := r_goes a b) X hr hlk hw hS (Nat.zero_le _) (Nat.zero_le _) (by clear hb hx hl hS hw hnm hlk hr X; first | rfl | (simp_all [bI, r_goes]; done) | (simp_all [bI, r_goes]; rfl)) (⟨rfl, rfl, rfl⟩) dX10_goes_60
      · skip
        refine lv_iload_n hx hb dX10_goes_16 rfl (lv_at hl 1 rfl) ?_
        refine m_calli (m_runS (As := [.int b]) (rest := []) X (k_X10_isThing Γ l L (M) b) s_X10_isThing ml_X10_108 hw hS rfl hl.1 ⟨Nat.le_of_ble_eq_true rfl, Nat.le_of_ble_eq_true rfl⟩ (Nat.le_of_ble_eq_true rfl) ⟨Nat.le_of_ble_eq_true rfl, Nat.le_of_ble_eq_true rfl⟩ dX10_goes_17) hS (fun r_97 L1 M1 H locs hp_96 hw hS => ?_)
        obtain ⟨rfl, e1, e2⟩ := hp_96
        rw [e1, e2] at hw; clear e1 e2
        exact m_zret (b := r_goes a b) X hr hlk hw hS (Nat.zero_le _) (Nat.zero_le _) (by clear hb hx hl hS hw hnm hlk hr X; first | rfl | (simp_all [bI, r_goes]; done) | (simp_all [bI, r_goes]; rfl)) (⟨rfl, rfl, rfl⟩) dX10_goes_20
    · skip
      refine lv_iconst (v := 1) hx hb dX10_goes_9 (by decide) ?_
      exact m_zret (b := r_goes a b) X hr hlk hw hS (Nat.zero_le _) (Nat.zero_le _) (by clear hb hx hl hS hw hnm hlk hr X; first | rfl | (simp_all [bI, r_goes]; done) | (simp_all [bI, r_goes]; rfl)) (⟨rfl, rfl, rfl⟩) dX10_goes_10
theorem s_X10_common : mSm yX10_common cX10_common 3 (some .int) 2 := ⟨cd_X10_common, st_X10_common, ini_X10, by decide, by decide, by decide +kernel⟩
set_option maxHeartbeats 4000000 in
set_option maxRecDepth 100000 in
theorem k_X10_common (Γ : mG) (l : Launch) (L : mI → Nat) (M : mM) (a : Int32) (b : Int32) : mMet Γ l yX10_common cX10_common 3 (some .int) { frames := 2, cells := 0, slots := 0, locals := 42 } [.int a, .int b] L M (mQi Γ (fun r L1 M1 => r = r_common a b ∧ L1 = L ∧ M1 = M)) := by
  refine m_start (by decide) (Nat.le_of_ble_eq_true rfl) ?_
  intro p e s m args below meth c A ls X hr hlk hnm hw hS hl
  have hx := X.1.1
  have hb := X.1.2.1
  have hl : lv_has ls 3 [(0, .int a), (1, .int b)] := hl
  have KL : ∀ (n : Nat) (z : Int32) (H : Heap) (locs : List Loc) (ls : Array Slot), r_rk2 z ≤ n → r_common a b = r_com n z b → mW Γ.1 vwCl A L M H → va_S A s.heap H locs → lv_has ls 3 [(2, .int z), (0, .int a), (1, .int b)] → W p l e { frames := 2, cells := 0, slots := 0, locals := 42 } s m args below meth c H locs 0 0 (MQ below (mQi Γ (fun r L1 M1 => r = r_common a b ∧ L1 = L ∧ M1 = M) A) args s 0 0 A) (F0 m 11 ls []) := by
    intro n
    induction n with
    | zero =>
      intro z H locs ls hn he hw hS hl
      refine lv_iload_n hx hb dX10_common_11 rfl (lv_at hl 2 rfl) ?_
      refine lv_iload_n hx hb dX10_common_12 rfl (lv_at hl 0 rfl) ?_
      refine m_calli (m_runS (As := [.int b, .int z]) (rest := []) X (k_X10_isUnder Γ l L (M) b z) s_X10_isUnder ml_X10_111 hw hS rfl hl.1 ⟨Nat.le_of_ble_eq_true rfl, Nat.le_of_ble_eq_true rfl⟩ (Nat.le_of_ble_eq_true rfl) ⟨Nat.le_of_ble_eq_true rfl, Nat.le_of_ble_eq_true rfl⟩ dX10_common_13) hS (fun r_2 L1 M1 H locs hp_1 hw hS => ?_)
      obtain ⟨rfl, e1, e2⟩ := hp_1
      rw [e1, e2] at hw; clear e1 e2
      refine lv_if_ne (tgt := 27) hx hb dX10_common_16 (by decide) (fun c_3 => ?_) (fun c_3 => ?_)
      · skip
        have c_3 := bI_t c_3
        refine lv_iload_n hx hb dX10_common_27 rfl (lv_at hl 0 rfl) ?_
        exact m_iret X hr hlk hw hS (Nat.zero_le _) (Nat.zero_le _) (⟨by rw [he]; clear he hb hx hl hS hw hnm hlk hr X; first | rfl | (simp_all [bI, r_com]; done) | (simp_all [bI, r_com]; rfl), rfl, rfl⟩) dX10_common_28
      · skip
        have c_3 := bI_f c_3
        refine lv_iload_n hx hb dX10_common_19 rfl (lv_at hl 0 rfl) ?_
        refine m_calli (m_runS (As := [.int z]) (rest := []) X (k_X10_above Γ l L (M) z) s_X10_above ml_X10_83 hw hS rfl hl.1 ⟨Nat.le_of_ble_eq_true rfl, Nat.le_of_ble_eq_true rfl⟩ (Nat.le_of_ble_eq_true rfl) ⟨Nat.le_of_ble_eq_true rfl, Nat.le_of_ble_eq_true rfl⟩ dX10_common_20) hS (fun r_5 L1 M1 H locs hp_4 hw hS => ?_)
        obtain ⟨rfl, e1, e2⟩ := hp_4
        rw [e1, e2] at hw; clear e1 e2
        refine lv_istore_n (lv' := [(2, .int (r_above z)), (0, .int a), (1, .int b)]) hx hb dX10_common_23 rfl hl (by decide) rfl (fun ls hl => ?_)
        refine lv_goto (tgt := 11) hx hb dX10_common_24 (by decide) ?_
        exact absurd c_3 (by rw [r_rk2_0 hn]; simp [r_under])
    | succ n ih =>
      intro z H locs ls hn he hw hS hl
      refine lv_iload_n hx hb dX10_common_11 rfl (lv_at hl 2 rfl) ?_
      refine lv_iload_n hx hb dX10_common_12 rfl (lv_at hl 0 rfl) ?_
      refine m_calli (m_runS (As := [.int b, .int z]) (rest := []) X (k_X10_isUnder Γ l L (M) b z) s_X10_isUnder ml_X10_111 hw hS rfl hl.1 ⟨Nat.le_of_ble_eq_true rfl, Nat.le_of_ble_eq_true rfl⟩ (Nat.le_of_ble_eq_true rfl) ⟨Nat.le_of_ble_eq_true rfl, Nat.le_of_ble_eq_true rfl⟩ dX10_common_13) hS (fun r_7 L1 M1 H locs hp_6 hw hS => ?_)
      obtain ⟨rfl, e1, e2⟩ := hp_6
      rw [e1, e2] at hw; clear e1 e2
      refine lv_if_ne (tgt := 27) hx hb dX10_common_16 (by decide) (fun c_8 => ?_) (fun c_8 => ?_)
      · skip
        have c_8 := bI_t c_8
        refine lv_iload_n hx hb dX10_common_27 rfl (lv_at hl 0 rfl) ?_
        exact m_iret X hr hlk hw hS (Nat.zero_le _) (Nat.zero_le _) (⟨by rw [he]; clear he hb hx hl hS hw hnm hlk hr X; first | rfl | (simp_all [bI, r_com]; done) | (simp_all [bI, r_com]; rfl), rfl, rfl⟩) dX10_common_28
      · skip
        have c_8 := bI_f c_8
        refine lv_iload_n hx hb dX10_common_19 rfl (lv_at hl 0 rfl) ?_
        refine m_calli (m_runS (As := [.int z]) (rest := []) X (k_X10_above Γ l L (M) z) s_X10_above ml_X10_83 hw hS rfl hl.1 ⟨Nat.le_of_ble_eq_true rfl, Nat.le_of_ble_eq_true rfl⟩ (Nat.le_of_ble_eq_true rfl) ⟨Nat.le_of_ble_eq_true rfl, Nat.le_of_ble_eq_true rfl⟩ dX10_common_20) hS (fun r_10 L1 M1 H locs hp_9 hw hS => ?_)
        obtain ⟨rfl, e1, e2⟩ := hp_9
        rw [e1, e2] at hw; clear e1 e2
        refine lv_istore_n (lv' := [(2, .int (r_above z)), (0, .int a), (1, .int b)]) hx hb dX10_common_23 rfl hl (by decide) rfl (fun ls hl => ?_)
        refine lv_goto (tgt := 11) hx hb dX10_common_24 (by decide) ?_
        exact ih _ H locs ls (r_rk2_dn c_8 hn) (by rw [he]; clear hb hx hl hS hw hnm hlk hr X he ih; simp_all [r_com]) hw hS hl
  refine lv_iload_n hx hb dX10_common_0 rfl (lv_at hl 0 rfl) ?_
  refine lv_iconst (v := 5) hx hb dX10_common_1 (by decide) ?_
  refine lv_icmp_le (tgt := 9) hx hb dX10_common_2 (by decide) (fun c_11 => ?_) (fun c_11 => ?_)
  · skip
    refine lv_iload_n hx hb dX10_common_9 rfl (lv_at hl 0 rfl) ?_
    refine lv_istore_n (lv' := [(2, .int a), (0, .int a), (1, .int b)]) hx hb dX10_common_10 rfl hl (by decide) rfl (fun ls hl => ?_)
    exact KL 5 _ _ _ ls (by first | exact r_rk2_5 c_11 | exact Nat.zero_le _) (by first | (simp [r_common, Int32.not_lt.mpr c_11]; done) | (simp [r_common, Int32.not_le.mp c_11]; done)) hw hS hl
  · skip
    refine lv_iconst (v := 0) hx hb dX10_common_5 (by decide) ?_
    refine lv_goto (tgt := 10) hx hb dX10_common_6 (by decide) ?_
    refine lv_istore_n (lv' := [(2, .int 0), (0, .int a), (1, .int b)]) hx hb dX10_common_10 rfl hl (by decide) rfl (fun ls hl => ?_)
    exact KL 5 _ _ _ ls (by first | exact r_rk2_5 c_11 | exact Nat.zero_le _) (by first | (simp [r_common, Int32.not_lt.mpr c_11]; done) | (simp [r_common, Int32.not_le.mp c_11]; done)) hw hS hl
theorem s_X10_isOnePlace : mSm yX10_isOnePlace cX10_isOnePlace 1 (some .boolean) 1 := ⟨cd_X10_isOnePlace, st_X10_isOnePlace, ini_X10, by decide, by decide, by decide +kernel⟩
set_option maxHeartbeats 4000000 in
set_option maxRecDepth 100000 in
theorem k_X10_isOnePlace (Γ : mG) (l : Launch) (L : mI → Nat) (M : mM) (a : Int32) : mMet Γ l yX10_isOnePlace cX10_isOnePlace 1 (some .boolean) { frames := 0, cells := 0, slots := 0, locals := 0 } [.int a] L M (mQi Γ (fun r L1 M1 => r = bI (r_one a) ∧ L1 = L ∧ M1 = M)) := by
  refine m_start (by decide) (Nat.le_of_ble_eq_true rfl) ?_
  intro p e s m args below meth c A ls X hr hlk hnm hw hS hl
  have hx := X.1.1
  have hb := X.1.2.1
  have hl : lv_has ls 1 [(0, .int a)] := hl
  refine lv_iload_n hx hb dX10_isOnePlace_0 rfl (lv_at hl 0 rfl) ?_
  refine lv_iconst (v := 1) hx hb dX10_isOnePlace_1 (by decide) ?_
  refine lv_icmp_eq (tgt := 10) hx hb dX10_isOnePlace_2 (by decide) (fun c_1 => ?_) (fun c_1 => ?_)
  · skip
    refine lv_iconst (v := 1) hx hb dX10_isOnePlace_10 (by decide) ?_
    refine lv_goto (tgt := 15) hx hb dX10_isOnePlace_11 (by decide) ?_
    exact m_zret (b := r_one a) X hr hlk hw hS (Nat.zero_le _) (Nat.zero_le _) (by clear hb hx hl hS hw hnm hlk hr X; first | rfl | (simp_all [bI, r_one]; done) | (simp_all [bI, r_one]; rfl)) (⟨rfl, rfl, rfl⟩) dX10_isOnePlace_15
  · skip
    refine lv_iload_n hx hb dX10_isOnePlace_5 rfl (lv_at hl 0 rfl) ?_
    refine lv_iconst (v := 4) hx hb dX10_isOnePlace_6 (by decide) ?_
    refine lv_icmp_lt (tgt := 14) hx hb dX10_isOnePlace_7 (by decide) (fun c_2 => ?_) (fun c_2 => ?_)
    · skip
      refine lv_iconst (v := 0) hx hb dX10_isOnePlace_14 (by decide) ?_
      exact m_zret (b := r_one a) X hr hlk hw hS (Nat.zero_le _) (Nat.zero_le _) (by clear hb hx hl hS hw hnm hlk hr X; first | rfl | (simp_all [bI, r_one]; done) | (simp_all [bI, r_one]; rfl)) (⟨rfl, rfl, rfl⟩) dX10_isOnePlace_15
    · skip
      refine lv_iconst (v := 1) hx hb dX10_isOnePlace_10 (by decide) ?_
      refine lv_goto (tgt := 15) hx hb dX10_isOnePlace_11 (by decide) ?_
      exact m_zret (b := r_one a) X hr hlk hw hS (Nat.zero_le _) (Nat.zero_le _) (by clear hb hx hl hS hw hnm hlk hr X; first | rfl | (simp_all [bI, r_one]; done) | (simp_all [bI, r_one]; rfl)) (⟨rfl, rfl, rfl⟩) dX10_isOnePlace_15
theorem s_X10_joined : mSm yX10_joined cX10_joined 2 (some .int) 2 := ⟨cd_X10_joined, st_X10_joined, ini_X10, by decide, by decide, by decide +kernel⟩
set_option maxHeartbeats 4000000 in
set_option maxRecDepth 100000 in
theorem k_X10_joined (Γ : mG) (l : Launch) (L : mI → Nat) (M : mM) (a : Int32) (b : Int32) : mMet Γ l yX10_joined cX10_joined 2 (some .int) { frames := 3, cells := 0, slots := 0, locals := 65 } [.int a, .int b] L M (mQi Γ (fun r L1 M1 => r = r_joined a b ∧ L1 = L ∧ M1 = M)) := by
  refine m_start (by decide) (Nat.le_of_ble_eq_true rfl) ?_
  intro p e s m args below meth c A ls X hr hlk hnm hw hS hl
  have hx := X.1.1
  have hb := X.1.2.1
  have hl : lv_has ls 2 [(0, .int a), (1, .int b)] := hl
  have K93 : ∀ (H : Heap) (locs : List Loc) (ls : Array Slot), r_joined a b = r_join3 a b → mW Γ.1 vwCl A L M H → va_S A s.heap H locs → lv_has ls 2 [(0, .int a), (1, .int b)] → W p l e { frames := 3, cells := 0, slots := 0, locals := 65 } s m args below meth c H locs 0 0 (MQ below (mQi Γ (fun r L1 M1 => r = r_joined a b ∧ L1 = L ∧ M1 = M) A) args s 0 0 A) (F0 m 93 ls []) := by
    intro H locs ls he hw hS hl
    refine lv_iload_n hx hb dX10_joined_93 rfl (lv_at hl 0 rfl) ?_
    refine m_calli (m_runS (As := [.int a]) (rest := []) X (k_X10_isThing Γ l L (M) a) s_X10_isThing ml_X10_108 hw hS rfl hl.1 ⟨Nat.le_of_ble_eq_true rfl, Nat.le_of_ble_eq_true rfl⟩ (Nat.le_of_ble_eq_true rfl) ⟨Nat.le_of_ble_eq_true rfl, Nat.le_of_ble_eq_true rfl⟩ dX10_joined_94) hS (fun r_2 L1 M1 H locs hp_1 hw hS => ?_)
    obtain ⟨rfl, e1, e2⟩ := hp_1
    rw [e1, e2] at hw; clear e1 e2
    refine lv_if_eq (tgt := 112) hx hb dX10_joined_97 (by decide) (fun c_3 => ?_) (fun c_3 => ?_)
    · skip
      have c_3 := bI_f c_3
      refine lv_iconst (v := 0) hx hb dX10_joined_112 (by decide) ?_
      exact m_iret X hr hlk hw hS (Nat.zero_le _) (Nat.zero_le _) (⟨by rw [he]; clear he  hb hx hl hS hw hnm hlk hr X; first | rfl | (simp_all [bI, r_join3]; done) | (simp_all [bI, r_join3]; rfl), rfl, rfl⟩) dX10_joined_113
    · skip
      have c_3 := bI_t c_3
      refine lv_iload_n hx hb dX10_joined_100 rfl (lv_at hl 1 rfl) ?_
      refine m_calli (m_runS (As := [.int b]) (rest := []) X (k_X10_isThing Γ l L (M) b) s_X10_isThing ml_X10_108 hw hS rfl hl.1 ⟨Nat.le_of_ble_eq_true rfl, Nat.le_of_ble_eq_true rfl⟩ (Nat.le_of_ble_eq_true rfl) ⟨Nat.le_of_ble_eq_true rfl, Nat.le_of_ble_eq_true rfl⟩ dX10_joined_101) hS (fun r_5 L1 M1 H locs hp_4 hw hS => ?_)
      obtain ⟨rfl, e1, e2⟩ := hp_4
      rw [e1, e2] at hw; clear e1 e2
      refine lv_if_eq (tgt := 112) hx hb dX10_joined_104 (by decide) (fun c_6 => ?_) (fun c_6 => ?_)
      · skip
        have c_6 := bI_f c_6
        refine lv_iconst (v := 0) hx hb dX10_joined_112 (by decide) ?_
        exact m_iret X hr hlk hw hS (Nat.zero_le _) (Nat.zero_le _) (⟨by rw [he]; clear he  hb hx hl hS hw hnm hlk hr X; first | rfl | (simp_all [bI, r_join3]; done) | (simp_all [bI, r_join3]; rfl), rfl, rfl⟩) dX10_joined_113
      · skip
        have c_6 := bI_t c_6
        refine lv_bipush (v := 10) hx hb dX10_joined_107 (by decide) ?_
        refine lv_goto (tgt := 113) hx hb dX10_joined_109 (by decide) ?_
        exact m_iret X hr hlk hw hS (Nat.zero_le _) (Nat.zero_le _) (⟨by rw [he]; clear he  hb hx hl hS hw hnm hlk hr X; first | rfl | (simp_all [bI, r_join3]; done) | (simp_all [bI, r_join3]; rfl), rfl, rfl⟩) dX10_joined_113
  have K64 : ∀ (H : Heap) (locs : List Loc) (ls : Array Slot), r_joined a b = r_join2 a b → mW Γ.1 vwCl A L M H → va_S A s.heap H locs → lv_has ls 2 [(0, .int a), (1, .int b)] → W p l e { frames := 3, cells := 0, slots := 0, locals := 65 } s m args below meth c H locs 0 0 (MQ below (mQi Γ (fun r L1 M1 => r = r_joined a b ∧ L1 = L ∧ M1 = M) A) args s 0 0 A) (F0 m 64 ls []) := by
    intro H locs ls he hw hS hl
    refine lv_iload_n hx hb dX10_joined_64 rfl (lv_at hl 0 rfl) ?_
    refine m_calli (m_runS (As := [.int a]) (rest := []) X (k_X10_isRow Γ l L (M) a) s_X10_isRow ml_X10_99 hw hS rfl hl.1 ⟨Nat.le_of_ble_eq_true rfl, Nat.le_of_ble_eq_true rfl⟩ (Nat.le_of_ble_eq_true rfl) ⟨Nat.le_of_ble_eq_true rfl, Nat.le_of_ble_eq_true rfl⟩ dX10_joined_65) hS (fun r_8 L1 M1 H locs hp_7 hw hS => ?_)
    obtain ⟨rfl, e1, e2⟩ := hp_7
    rw [e1, e2] at hw; clear e1 e2
    refine lv_if_eq (tgt := 93) hx hb dX10_joined_68 (by decide) (fun c_9 => ?_) (fun c_9 => ?_)
    · skip
      have c_9 := bI_f c_9
      exact K93 H locs ls (by rw [he]; clear hb hx hl hS hw hnm hlk hr X he; simp_all [r_join2]) hw hS hl
    · skip
      have c_9 := bI_t c_9
      refine lv_iload_n hx hb dX10_joined_71 rfl (lv_at hl 1 rfl) ?_
      refine m_calli (m_runS (As := [.int b]) (rest := []) X (k_X10_isRow Γ l L (M) b) s_X10_isRow ml_X10_99 hw hS rfl hl.1 ⟨Nat.le_of_ble_eq_true rfl, Nat.le_of_ble_eq_true rfl⟩ (Nat.le_of_ble_eq_true rfl) ⟨Nat.le_of_ble_eq_true rfl, Nat.le_of_ble_eq_true rfl⟩ dX10_joined_72) hS (fun r_11 L1 M1 H locs hp_10 hw hS => ?_)
      obtain ⟨rfl, e1, e2⟩ := hp_10
      rw [e1, e2] at hw; clear e1 e2
      refine lv_if_eq (tgt := 93) hx hb dX10_joined_75 (by decide) (fun c_12 => ?_) (fun c_12 => ?_)
      · skip
        have c_12 := bI_f c_12
        exact K93 H locs ls (by rw [he]; clear hb hx hl hS hw hnm hlk hr X he; simp_all [r_join2]) hw hS hl
      · skip
        have c_12 := bI_t c_12
        refine lv_bipush (v := 20) hx hb dX10_joined_78 (by decide) ?_
        refine lv_iload_n hx hb dX10_joined_80 rfl (lv_at hl 0 rfl) ?_
        refine lv_bipush (v := 20) hx hb dX10_joined_81 (by decide) ?_
        refine lv_isub hx hb dX10_joined_83 ?_
        refine lv_iload_n hx hb dX10_joined_84 rfl (lv_at hl 1 rfl) ?_
        refine lv_bipush (v := 20) hx hb dX10_joined_85 (by decide) ?_
        refine lv_isub hx hb dX10_joined_87 ?_
        refine m_calli (m_runS (As := [.int (a - 20), .int (b - 20)]) (rest := [.int 20]) X (k_X10_common Γ l L (M) (a - 20) (b - 20)) s_X10_common ml_X10_115 hw hS rfl hl.1 ⟨Nat.le_of_ble_eq_true rfl, Nat.le_of_ble_eq_true rfl⟩ (Nat.le_of_ble_eq_true rfl) ⟨Nat.le_of_ble_eq_true rfl, Nat.le_of_ble_eq_true rfl⟩ dX10_joined_88) hS (fun r_14 L1 M1 H locs hp_13 hw hS => ?_)
        obtain ⟨rfl, e1, e2⟩ := hp_13
        rw [e1, e2] at hw; clear e1 e2
        refine lv_iadd hx hb dX10_joined_91 ?_
        exact m_iret X hr hlk hw hS (Nat.zero_le _) (Nat.zero_le _) (⟨by rw [he]; clear he K93 hb hx hl hS hw hnm hlk hr X; first | rfl | (simp_all [bI, r_join2]; done) | (simp_all [bI, r_join2]; rfl), rfl, rfl⟩) dX10_joined_92
  have K35 : ∀ (H : Heap) (locs : List Loc) (ls : Array Slot), r_joined a b = r_join1 a b → mW Γ.1 vwCl A L M H → va_S A s.heap H locs → lv_has ls 2 [(0, .int a), (1, .int b)] → W p l e { frames := 3, cells := 0, slots := 0, locals := 65 } s m args below meth c H locs 0 0 (MQ below (mQi Γ (fun r L1 M1 => r = r_joined a b ∧ L1 = L ∧ M1 = M) A) args s 0 0 A) (F0 m 35 ls []) := by
    intro H locs ls he hw hS hl
    refine lv_iload_n hx hb dX10_joined_35 rfl (lv_at hl 0 rfl) ?_
    refine m_calli (m_runS (As := [.int a]) (rest := []) X (k_X10_isObject Γ l L (M) a) s_X10_isObject ml_X10_95 hw hS rfl hl.1 ⟨Nat.le_of_ble_eq_true rfl, Nat.le_of_ble_eq_true rfl⟩ (Nat.le_of_ble_eq_true rfl) ⟨Nat.le_of_ble_eq_true rfl, Nat.le_of_ble_eq_true rfl⟩ dX10_joined_36) hS (fun r_16 L1 M1 H locs hp_15 hw hS => ?_)
    obtain ⟨rfl, e1, e2⟩ := hp_15
    rw [e1, e2] at hw; clear e1 e2
    refine lv_if_eq (tgt := 64) hx hb dX10_joined_39 (by decide) (fun c_17 => ?_) (fun c_17 => ?_)
    · skip
      have c_17 := bI_f c_17
      exact K64 H locs ls (by rw [he]; clear hb hx hl hS hw hnm hlk hr X he; simp_all [r_join1]) hw hS hl
    · skip
      have c_17 := bI_t c_17
      refine lv_iload_n hx hb dX10_joined_42 rfl (lv_at hl 1 rfl) ?_
      refine m_calli (m_runS (As := [.int b]) (rest := []) X (k_X10_isObject Γ l L (M) b) s_X10_isObject ml_X10_95 hw hS rfl hl.1 ⟨Nat.le_of_ble_eq_true rfl, Nat.le_of_ble_eq_true rfl⟩ (Nat.le_of_ble_eq_true rfl) ⟨Nat.le_of_ble_eq_true rfl, Nat.le_of_ble_eq_true rfl⟩ dX10_joined_43) hS (fun r_19 L1 M1 H locs hp_18 hw hS => ?_)
      obtain ⟨rfl, e1, e2⟩ := hp_18
      rw [e1, e2] at hw; clear e1 e2
      refine lv_if_eq (tgt := 64) hx hb dX10_joined_46 (by decide) (fun c_20 => ?_) (fun c_20 => ?_)
      · skip
        have c_20 := bI_f c_20
        exact K64 H locs ls (by rw [he]; clear hb hx hl hS hw hnm hlk hr X he; simp_all [r_join1]) hw hS hl
      · skip
        have c_20 := bI_t c_20
        refine lv_bipush (v := 10) hx hb dX10_joined_49 (by decide) ?_
        refine lv_iload_n hx hb dX10_joined_51 rfl (lv_at hl 0 rfl) ?_
        refine lv_bipush (v := 10) hx hb dX10_joined_52 (by decide) ?_
        refine lv_isub hx hb dX10_joined_54 ?_
        refine lv_iload_n hx hb dX10_joined_55 rfl (lv_at hl 1 rfl) ?_
        refine lv_bipush (v := 10) hx hb dX10_joined_56 (by decide) ?_
        refine lv_isub hx hb dX10_joined_58 ?_
        refine m_calli (m_runS (As := [.int (a - 10), .int (b - 10)]) (rest := [.int 10]) X (k_X10_common Γ l L (M) (a - 10) (b - 10)) s_X10_common ml_X10_115 hw hS rfl hl.1 ⟨Nat.le_of_ble_eq_true rfl, Nat.le_of_ble_eq_true rfl⟩ (Nat.le_of_ble_eq_true rfl) ⟨Nat.le_of_ble_eq_true rfl, Nat.le_of_ble_eq_true rfl⟩ dX10_joined_59) hS (fun r_22 L1 M1 H locs hp_21 hw hS => ?_)
        obtain ⟨rfl, e1, e2⟩ := hp_21
        rw [e1, e2] at hw; clear e1 e2
        refine lv_iadd hx hb dX10_joined_62 ?_
        exact m_iret X hr hlk hw hS (Nat.zero_le _) (Nat.zero_le _) (⟨by rw [he]; clear he K93 K64 hb hx hl hS hw hnm hlk hr X; first | rfl | (simp_all [bI, r_join1]; done) | (simp_all [bI, r_join1]; rfl), rfl, rfl⟩) dX10_joined_63
  refine lv_iload_n hx hb dX10_joined_0 rfl (lv_at hl 0 rfl) ?_
  refine lv_iload_n hx hb dX10_joined_1 rfl (lv_at hl 1 rfl) ?_
  refine lv_icmp_ne (tgt := 7) hx hb dX10_joined_2 (by decide) (fun c_23 => ?_) (fun c_23 => ?_)
  · skip
    refine lv_iload_n hx hb dX10_joined_7 rfl (lv_at hl 0 rfl) ?_
    refine lv_iconst (v := 4) hx hb dX10_joined_8 (by decide) ?_
    refine lv_icmp_ne (tgt := 21) hx hb dX10_joined_9 (by decide) (fun c_24 => ?_) (fun c_24 => ?_)
    · skip
      refine lv_iload_n hx hb dX10_joined_21 rfl (lv_at hl 1 rfl) ?_
      refine lv_iconst (v := 4) hx hb dX10_joined_22 (by decide) ?_
      refine lv_icmp_ne (tgt := 35) hx hb dX10_joined_23 (by decide) (fun c_25 => ?_) (fun c_25 => ?_)
      · skip
        exact K35 _ _ ls (by clear K35 K64 K93 hb hx hl hS hw hnm hlk hr X; simp_all [r_joined]) hw hS hl
      · skip
        refine lv_iload_n hx hb dX10_joined_26 rfl (lv_at hl 0 rfl) ?_
        refine m_calli (m_runS (As := [.int a]) (rest := []) X (k_X10_isThing Γ l L (M) a) s_X10_isThing ml_X10_108 hw hS rfl hl.1 ⟨Nat.le_of_ble_eq_true rfl, Nat.le_of_ble_eq_true rfl⟩ (Nat.le_of_ble_eq_true rfl) ⟨Nat.le_of_ble_eq_true rfl, Nat.le_of_ble_eq_true rfl⟩ dX10_joined_27) hS (fun r_27 L1 M1 H locs hp_26 hw hS => ?_)
        obtain ⟨rfl, e1, e2⟩ := hp_26
        rw [e1, e2] at hw; clear e1 e2
        refine lv_if_eq (tgt := 35) hx hb dX10_joined_30 (by decide) (fun c_28 => ?_) (fun c_28 => ?_)
        · skip
          have c_28 := bI_f c_28
          exact K35 _ _ ls (by clear K35 K64 K93 hb hx hl hS hw hnm hlk hr X; simp_all [r_joined]) hw hS hl
        · skip
          have c_28 := bI_t c_28
          refine lv_iload_n hx hb dX10_joined_33 rfl (lv_at hl 0 rfl) ?_
          exact m_iret X hr hlk hw hS (Nat.zero_le _) (Nat.zero_le _) (⟨by clear K35 K64 K93 hb hx hl hS hw hnm hlk hr X; first | rfl | (simp_all [bI, r_joined]; done) | (simp_all [bI, r_joined]; rfl), rfl, rfl⟩) dX10_joined_34
    · skip
      refine lv_iload_n hx hb dX10_joined_12 rfl (lv_at hl 1 rfl) ?_
      refine m_calli (m_runS (As := [.int b]) (rest := []) X (k_X10_isThing Γ l L (M) b) s_X10_isThing ml_X10_108 hw hS rfl hl.1 ⟨Nat.le_of_ble_eq_true rfl, Nat.le_of_ble_eq_true rfl⟩ (Nat.le_of_ble_eq_true rfl) ⟨Nat.le_of_ble_eq_true rfl, Nat.le_of_ble_eq_true rfl⟩ dX10_joined_13) hS (fun r_30 L1 M1 H locs hp_29 hw hS => ?_)
      obtain ⟨rfl, e1, e2⟩ := hp_29
      rw [e1, e2] at hw; clear e1 e2
      refine lv_if_eq (tgt := 21) hx hb dX10_joined_16 (by decide) (fun c_31 => ?_) (fun c_31 => ?_)
      · skip
        have c_31 := bI_f c_31
        refine lv_iload_n hx hb dX10_joined_21 rfl (lv_at hl 1 rfl) ?_
        refine lv_iconst (v := 4) hx hb dX10_joined_22 (by decide) ?_
        refine lv_icmp_ne (tgt := 35) hx hb dX10_joined_23 (by decide) (fun c_32 => ?_) (fun c_32 => ?_)
        · skip
          exact K35 _ _ ls (by clear K35 K64 K93 hb hx hl hS hw hnm hlk hr X; simp_all [r_joined]) hw hS hl
        · skip
          refine lv_iload_n hx hb dX10_joined_26 rfl (lv_at hl 0 rfl) ?_
          refine m_calli (m_runS (As := [.int a]) (rest := []) X (k_X10_isThing Γ l L (M) a) s_X10_isThing ml_X10_108 hw hS rfl hl.1 ⟨Nat.le_of_ble_eq_true rfl, Nat.le_of_ble_eq_true rfl⟩ (Nat.le_of_ble_eq_true rfl) ⟨Nat.le_of_ble_eq_true rfl, Nat.le_of_ble_eq_true rfl⟩ dX10_joined_27) hS (fun r_34 L1 M1 H locs hp_33 hw hS => ?_)
          obtain ⟨rfl, e1, e2⟩ := hp_33
          rw [e1, e2] at hw; clear e1 e2
          refine lv_if_eq (tgt := 35) hx hb dX10_joined_30 (by decide) (fun c_35 => ?_) (fun c_35 => ?_)
          · skip
            have c_35 := bI_f c_35
            exact K35 _ _ ls (by clear K35 K64 K93 hb hx hl hS hw hnm hlk hr X; simp_all [r_joined]) hw hS hl
          · skip
            have c_35 := bI_t c_35
            refine lv_iload_n hx hb dX10_joined_33 rfl (lv_at hl 0 rfl) ?_
            exact m_iret X hr hlk hw hS (Nat.zero_le _) (Nat.zero_le _) (⟨by clear K35 K64 K93 hb hx hl hS hw hnm hlk hr X; first | rfl | (simp_all [bI, r_joined]; done) | (simp_all [bI, r_joined]; rfl), rfl, rfl⟩) dX10_joined_34
      · skip
        have c_31 := bI_t c_31
        refine lv_iload_n hx hb dX10_joined_19 rfl (lv_at hl 1 rfl) ?_
        exact m_iret X hr hlk hw hS (Nat.zero_le _) (Nat.zero_le _) (⟨by clear K35 K64 K93 hb hx hl hS hw hnm hlk hr X; first | rfl | (simp_all [bI, r_joined]; done) | (simp_all [bI, r_joined]; rfl), rfl, rfl⟩) dX10_joined_20
  · skip
    refine lv_iload_n hx hb dX10_joined_5 rfl (lv_at hl 0 rfl) ?_
    exact m_iret X hr hlk hw hS (Nat.zero_le _) (Nat.zero_le _) (⟨by clear K35 K64 K93 hb hx hl hS hw hnm hlk hr X; first | rfl | (simp_all [bI, r_joined]; done) | (simp_all [bI, r_joined]; rfl), rfl, rfl⟩) dX10_joined_6
end
section
/-! THE HAND: what stands at an instruction: 16 places (8 locals, then the stack) and the depth -/
abbrev PL : Type := (Nat → Int32) × Nat
def sH (x : RS) (q : PL) : RS := (upd x.1 15 (nI q.2), va_up x.2.1 14 q.1, x.2.2)
theorem upd_upd (f : Nat → Int32) (k : Nat) (a b : Int32) : upd (upd f k a) k b = upd f k b := by
  funext j
  by_cases h : j = k
  · subst h; simp [upd]
  · simp [upd, h]
theorem va_upup {α : Type} (f : Nat → α) (k : Nat) (a b : α) : va_up (va_up f k a) k b = va_up f k b := by
  funext j
  by_cases h : j = k
  · subst h; simp [va_up]
  · simp [va_up, h]
theorem sH_sS (x : RS) (q : PL) (d : Nat) : sS (sH x q) 15 (nI d) = sH x (q.1, d) := by
  unfold sS sH
  rw [upd_upd]
theorem sH_sA (x : RS) (q : PL) (n : Nat) (v : Int32) : sA (sH x q) 14 n v = sH x (upd q.1 n v, q.2) := by
  unfold sA sH
  have e : va_up x.2.1 14 q.1 14 = q.1 := by simp [va_up]
  show (_, va_up (va_up x.2.1 14 q.1) 14 (upd (va_up x.2.1 14 q.1 14) n v), _) = _
  rw [e, va_upup]
theorem sH_sH (x : RS) (q q' : PL) : sH (sH x q) q' = sH x q' := by
  unfold sH
  show (upd (upd x.1 15 (nI q.2)) 15 (nI q'.2), va_up (va_up x.2.1 14 q.1) 14 q'.1, x.2.2) = _
  rw [upd_upd, va_upup]
/-- a hand that is one already -/
theorem sH_self {x : RS} {q : PL} (h1 : x.1 15 = nI q.2) (h2 : x.2.1 14 = q.1) : sH x q = x := by
  unfold sH
  have e1 : upd x.1 15 (nI q.2) = x.1 := by
    funext j
    by_cases h : j = 15
    · subst h; simp [upd, h1]
    · simp [upd, h]
  have e2 : va_up x.2.1 14 q.1 = x.2.1 := by
    funext j
    by_cases h : j = 14
    · subst h; simp [va_up, h2]
    · simp [va_up, h]
  rw [e1, e2]
section HR
variable {p : Program} {l : Launch} {e : Env} {R : Room} {s : State} {m : MethodId} {args : Array Value} {below : List Frame} {meth : Method} {c : Code} {H : Heap} {locs : List Loc} {cells slots : Nat} {Q : State → Prop}
variable {cc : ByteArray} {pc nL : Nat} {ls : Array Slot} {rest : List Value} {Γ : mG} {A : Nat → Prop} {L : mI → Nat} {x : RS} {h : Nat → Int32} {d : Nat}
theorem h_get15 (X : mX Γ p m c cc nL s args RX10 A) (hw : mW Γ.1 vwCl A L (rM Γ L (sH x (h, d))) H) (hdg : decode cc pc = .ok (.getfield 145, 3)) (kk : W p l e R s m args below meth c H locs cells slots Q (F0 m (pc + 3) ls (.int (nI d) :: rest))) : W p l e R s m args below meth c H locs cells slots Q (F0 m pc ls (.ref (L (.inl 0)) :: rest)) := r_get15 X hw hdg kk
theorem h_put15 {v : Int32} {n : Nat} (X : mX Γ p m c cc nL s args RX10 A) (hw : mW Γ.1 vwCl A L (rM Γ L (sH x (h, d))) H) (hS : va_S A s.heap H locs) (hv : v = nI n) (hdg : decode cc pc = .ok (.putfield 145, 3)) (kk : ∀ (H1 : Heap) (locs1 : List Loc), mW Γ.1 vwCl A L (rM Γ L (sH x (h, n))) H1 → va_S A s.heap H1 locs1 → W p l e R s m args below meth c H1 locs1 cells slots Q (F0 m (pc + 3) ls rest)) : W p l e R s m args below meth c H locs cells slots Q (F0 m pc ls (.int v :: .ref (L (.inl 0)) :: rest)) := by
  subst hv
  exact r_put15 X hw hS hdg (fun H1 locs1 h1 h2 => kk H1 locs1 (by rw [sH_sS] at h1; exact h1) h2)
theorem h_ald14 {i : Int32} {n : Nat} (X : mX Γ p m c cc nL s args RX10 A) (hw : mW Γ.1 vwCl A L (rM Γ L (sH x (h, d))) H) (hi : i = nI n) (hn : n < 16) (hdg : decode cc pc = .ok (.iaload, 1)) (kk : W p l e R s m args below meth c H locs cells slots Q (F0 m (pc + 1) ls (.int (h n) :: rest))) : W p l e R s m args below meth c H locs cells slots Q (F0 m pc ls (.int i :: .ref (L (.inr (0, 14, 0))) :: rest)) := r_ald14N X hw hi hn hdg kk
theorem h_ast14 {i v : Int32} {n : Nat} (X : mX Γ p m c cc nL s args RX10 A) (hw : mW Γ.1 vwCl A L (rM Γ L (sH x (h, d))) H) (hS : va_S A s.heap H locs) (hi : i = nI n) (hn : n < 16) (hdg : decode cc pc = .ok (.iastore, 1)) (kk : ∀ (H1 : Heap) (locs1 : List Loc), mW Γ.1 vwCl A L (rM Γ L (sH x (upd h n v, d))) H1 → va_S A s.heap H1 locs1 → W p l e R s m args below meth c H1 locs1 cells slots Q (F0 m (pc + 1) ls rest)) : W p l e R s m args below meth c H locs cells slots Q (F0 m pc ls (.int v :: .int i :: .ref (L (.inr (0, 14, 0))) :: rest)) :=
  r_ast14N X hw hS hi hn hdg (fun H1 locs1 h1 h2 => kk H1 locs1 (by rw [sH_sA] at h1; exact h1) h2)
end HR
/-! what an instruction does with a hand, or none: it is WRONG -/
def p_push (q : PL) (k : Int32) : Option PL := if q.2 = 8 then none else some (upd q.1 (8 + q.2) k, q.2 + 1)
def p_pop (q : PL) (k : Int32) : Option PL := if q.2 = 0 then none else if r_goes (q.1 (7 + q.2)) k = true then some (q.1, q.2 - 1) else none
def p_pushL (q : PL) : Option PL := (p_push q 2).bind (fun z => p_push z 3)
def p_popL (q : PL) : Option PL := if 2 ≤ q.2 ∧ q.1 (7 + q.2) = 3 ∧ q.1 (6 + q.2) = 2 then some (q.1, q.2 - 2) else none
def p_one (q : PL) (n : Nat) : Bool := decide (n < q.2) && r_one (q.1 (7 + q.2 - n))
def p_local1 (h : Nat → Int32) (l : Nat) : Nat → Int32 := if h l = 3 ∧ 0 < l ∧ h (l - 1) = 2 then upd h (l - 1) 0 else h
def p_local2 (h : Nat → Int32) (l : Nat) : Nat → Int32 := if h l = 2 ∧ l < 7 ∧ h (l + 1) = 3 then upd h (l + 1) 0 else h
def p_local (h : Nat → Int32) (l : Nat) (k : Int32) : Nat → Int32 := upd (p_local2 (p_local1 h l) l) l k
/-- the answer of a method that does something with the hand -/
def mHand (Γ : mG) (L : mI → Nat) (x : RS) (o : Option PL) (r : Int32) (L1 : mI → Nat) (M1 : mM) : Prop := ∃ q : PL, L1 = L ∧ M1 = rM Γ L (sH x q) ∧ match o with
  | some z => r = 1 ∧ q = z
  | none => r = 0
end
section
theorem dX10_push_0 : decode cX10_push 0 = .ok (.aload_n 0, 1) := by decide +kernel
theorem dX10_push_1 : decode cX10_push 1 = .ok (.getfield 145, 3) := by decide +kernel
theorem dX10_push_4 : decode cX10_push 4 = .ok (.bipush 8, 2) := by decide +kernel
theorem dX10_push_6 : decode cX10_push 6 = .ok (.if_icmp .ne 5, 3) := by decide +kernel
theorem dX10_push_9 : decode cX10_push 9 = .ok (.iconst 0, 1) := by decide +kernel
theorem dX10_push_10 : decode cX10_push 10 = .ok (.ireturn, 1) := by decide +kernel
theorem dX10_push_11 : decode cX10_push 11 = .ok (.aload_n 0, 1) := by decide +kernel
theorem dX10_push_12 : decode cX10_push 12 = .ok (.getfield 45, 3) := by decide +kernel
theorem dX10_push_15 : decode cX10_push 15 = .ok (.bipush 8, 2) := by decide +kernel
theorem dX10_push_17 : decode cX10_push 17 = .ok (.aload_n 0, 1) := by decide +kernel
theorem dX10_push_18 : decode cX10_push 18 = .ok (.getfield 145, 3) := by decide +kernel
theorem dX10_push_21 : decode cX10_push 21 = .ok (.iadd, 1) := by decide +kernel
theorem dX10_push_22 : decode cX10_push 22 = .ok (.iload_n 1, 1) := by decide +kernel
theorem dX10_push_23 : decode cX10_push 23 = .ok (.iastore, 1) := by decide +kernel
theorem dX10_push_24 : decode cX10_push 24 = .ok (.aload_n 0, 1) := by decide +kernel
theorem dX10_push_25 : decode cX10_push 25 = .ok (.dup, 1) := by decide +kernel
theorem dX10_push_26 : decode cX10_push 26 = .ok (.getfield 145, 3) := by decide +kernel
theorem dX10_push_29 : decode cX10_push 29 = .ok (.iconst 1, 1) := by decide +kernel
theorem dX10_push_30 : decode cX10_push 30 = .ok (.iadd, 1) := by decide +kernel
theorem dX10_push_31 : decode cX10_push 31 = .ok (.putfield 145, 3) := by decide +kernel
theorem dX10_push_34 : decode cX10_push 34 = .ok (.iconst 1, 1) := by decide +kernel
theorem dX10_push_35 : decode cX10_push 35 = .ok (.ireturn, 1) := by decide +kernel
theorem dX10_pop_0 : decode cX10_pop 0 = .ok (.aload_n 0, 1) := by decide +kernel
theorem dX10_pop_1 : decode cX10_pop 1 = .ok (.getfield 145, 3) := by decide +kernel
theorem dX10_pop_4 : decode cX10_pop 4 = .ok (.ifCond .eq 22, 3) := by decide +kernel
theorem dX10_pop_7 : decode cX10_pop 7 = .ok (.aload_n 0, 1) := by decide +kernel
theorem dX10_pop_8 : decode cX10_pop 8 = .ok (.getfield 45, 3) := by decide +kernel
theorem dX10_pop_11 : decode cX10_pop 11 = .ok (.bipush 7, 2) := by decide +kernel
theorem dX10_pop_13 : decode cX10_pop 13 = .ok (.aload_n 0, 1) := by decide +kernel
theorem dX10_pop_14 : decode cX10_pop 14 = .ok (.getfield 145, 3) := by decide +kernel
theorem dX10_pop_17 : decode cX10_pop 17 = .ok (.iadd, 1) := by decide +kernel
theorem dX10_pop_18 : decode cX10_pop 18 = .ok (.iaload, 1) := by decide +kernel
theorem dX10_pop_19 : decode cX10_pop 19 = .ok (.iload_n 1, 1) := by decide +kernel
theorem dX10_pop_20 : decode cX10_pop 20 = .ok (.invokestatic 125, 3) := by decide +kernel
theorem dX10_pop_23 : decode cX10_pop 23 = .ok (.ifCond .ne 5, 3) := by decide +kernel
theorem dX10_pop_26 : decode cX10_pop 26 = .ok (.iconst 0, 1) := by decide +kernel
theorem dX10_pop_27 : decode cX10_pop 27 = .ok (.ireturn, 1) := by decide +kernel
theorem dX10_pop_28 : decode cX10_pop 28 = .ok (.aload_n 0, 1) := by decide +kernel
theorem dX10_pop_29 : decode cX10_pop 29 = .ok (.dup, 1) := by decide +kernel
theorem dX10_pop_30 : decode cX10_pop 30 = .ok (.getfield 145, 3) := by decide +kernel
theorem dX10_pop_33 : decode cX10_pop 33 = .ok (.iconst 1, 1) := by decide +kernel
theorem dX10_pop_34 : decode cX10_pop 34 = .ok (.isub, 1) := by decide +kernel
theorem dX10_pop_35 : decode cX10_pop 35 = .ok (.putfield 145, 3) := by decide +kernel
theorem dX10_pop_38 : decode cX10_pop 38 = .ok (.iconst 1, 1) := by decide +kernel
theorem dX10_pop_39 : decode cX10_pop 39 = .ok (.ireturn, 1) := by decide +kernel
theorem dX10_pushLong_0 : decode cX10_pushLong 0 = .ok (.aload_n 0, 1) := by decide +kernel
theorem dX10_pushLong_1 : decode cX10_pushLong 1 = .ok (.iconst 2, 1) := by decide +kernel
theorem dX10_pushLong_2 : decode cX10_pushLong 2 = .ok (.invokevirtual 148, 3) := by decide +kernel
theorem dX10_pushLong_5 : decode cX10_pushLong 5 = .ok (.ifCond .eq 15, 3) := by decide +kernel
theorem dX10_pushLong_8 : decode cX10_pushLong 8 = .ok (.aload_n 0, 1) := by decide +kernel
theorem dX10_pushLong_9 : decode cX10_pushLong 9 = .ok (.iconst 3, 1) := by decide +kernel
theorem dX10_pushLong_10 : decode cX10_pushLong 10 = .ok (.invokevirtual 148, 3) := by decide +kernel
theorem dX10_pushLong_13 : decode cX10_pushLong 13 = .ok (.ifCond .eq 7, 3) := by decide +kernel
theorem dX10_pushLong_16 : decode cX10_pushLong 16 = .ok (.iconst 1, 1) := by decide +kernel
theorem dX10_pushLong_17 : decode cX10_pushLong 17 = .ok (.goto 4, 3) := by decide +kernel
theorem dX10_pushLong_20 : decode cX10_pushLong 20 = .ok (.iconst 0, 1) := by decide +kernel
theorem dX10_pushLong_21 : decode cX10_pushLong 21 = .ok (.ireturn, 1) := by decide +kernel
theorem dX10_popLong_0 : decode cX10_popLong 0 = .ok (.aload_n 0, 1) := by decide +kernel
theorem dX10_popLong_1 : decode cX10_popLong 1 = .ok (.getfield 145, 3) := by decide +kernel
theorem dX10_popLong_4 : decode cX10_popLong 4 = .ok (.iconst 2, 1) := by decide +kernel
theorem dX10_popLong_5 : decode cX10_popLong 5 = .ok (.if_icmp .lt 35, 3) := by decide +kernel
theorem dX10_popLong_8 : decode cX10_popLong 8 = .ok (.aload_n 0, 1) := by decide +kernel
theorem dX10_popLong_9 : decode cX10_popLong 9 = .ok (.getfield 45, 3) := by decide +kernel
theorem dX10_popLong_12 : decode cX10_popLong 12 = .ok (.bipush 7, 2) := by decide +kernel
theorem dX10_popLong_14 : decode cX10_popLong 14 = .ok (.aload_n 0, 1) := by decide +kernel
theorem dX10_popLong_15 : decode cX10_popLong 15 = .ok (.getfield 145, 3) := by decide +kernel
theorem dX10_popLong_18 : decode cX10_popLong 18 = .ok (.iadd, 1) := by decide +kernel
theorem dX10_popLong_19 : decode cX10_popLong 19 = .ok (.iaload, 1) := by decide +kernel
theorem dX10_popLong_20 : decode cX10_popLong 20 = .ok (.iconst 3, 1) := by decide +kernel
theorem dX10_popLong_21 : decode cX10_popLong 21 = .ok (.if_icmp .ne 19, 3) := by decide +kernel
theorem dX10_popLong_24 : decode cX10_popLong 24 = .ok (.aload_n 0, 1) := by decide +kernel
theorem dX10_popLong_25 : decode cX10_popLong 25 = .ok (.getfield 45, 3) := by decide +kernel
theorem dX10_popLong_28 : decode cX10_popLong 28 = .ok (.bipush 6, 2) := by decide +kernel
theorem dX10_popLong_30 : decode cX10_popLong 30 = .ok (.aload_n 0, 1) := by decide +kernel
theorem dX10_popLong_31 : decode cX10_popLong 31 = .ok (.getfield 145, 3) := by decide +kernel
theorem dX10_popLong_34 : decode cX10_popLong 34 = .ok (.iadd, 1) := by decide +kernel
theorem dX10_popLong_35 : decode cX10_popLong 35 = .ok (.iaload, 1) := by decide +kernel
theorem dX10_popLong_36 : decode cX10_popLong 36 = .ok (.iconst 2, 1) := by decide +kernel
theorem dX10_popLong_37 : decode cX10_popLong 37 = .ok (.if_icmp .eq 5, 3) := by decide +kernel
theorem dX10_popLong_40 : decode cX10_popLong 40 = .ok (.iconst 0, 1) := by decide +kernel
theorem dX10_popLong_41 : decode cX10_popLong 41 = .ok (.ireturn, 1) := by decide +kernel
theorem dX10_popLong_42 : decode cX10_popLong 42 = .ok (.aload_n 0, 1) := by decide +kernel
theorem dX10_popLong_43 : decode cX10_popLong 43 = .ok (.dup, 1) := by decide +kernel
theorem dX10_popLong_44 : decode cX10_popLong 44 = .ok (.getfield 145, 3) := by decide +kernel
theorem dX10_popLong_47 : decode cX10_popLong 47 = .ok (.iconst 2, 1) := by decide +kernel
theorem dX10_popLong_48 : decode cX10_popLong 48 = .ok (.isub, 1) := by decide +kernel
theorem dX10_popLong_49 : decode cX10_popLong 49 = .ok (.putfield 145, 3) := by decide +kernel
theorem dX10_popLong_52 : decode cX10_popLong 52 = .ok (.iconst 1, 1) := by decide +kernel
theorem dX10_popLong_53 : decode cX10_popLong 53 = .ok (.ireturn, 1) := by decide +kernel
theorem dX10_isOneOnTop_0 : decode cX10_isOneOnTop 0 = .ok (.aload_n 0, 1) := by decide +kernel
theorem dX10_isOneOnTop_1 : decode cX10_isOneOnTop 1 = .ok (.getfield 145, 3) := by decide +kernel
theorem dX10_isOneOnTop_4 : decode cX10_isOneOnTop 4 = .ok (.iload_n 1, 1) := by decide +kernel
theorem dX10_isOneOnTop_5 : decode cX10_isOneOnTop 5 = .ok (.if_icmp .le 27, 3) := by decide +kernel
theorem dX10_isOneOnTop_8 : decode cX10_isOneOnTop 8 = .ok (.aload_n 0, 1) := by decide +kernel
theorem dX10_isOneOnTop_9 : decode cX10_isOneOnTop 9 = .ok (.getfield 45, 3) := by decide +kernel
theorem dX10_isOneOnTop_12 : decode cX10_isOneOnTop 12 = .ok (.bipush 7, 2) := by decide +kernel
theorem dX10_isOneOnTop_14 : decode cX10_isOneOnTop 14 = .ok (.aload_n 0, 1) := by decide +kernel
theorem dX10_isOneOnTop_15 : decode cX10_isOneOnTop 15 = .ok (.getfield 145, 3) := by decide +kernel
theorem dX10_isOneOnTop_18 : decode cX10_isOneOnTop 18 = .ok (.iadd, 1) := by decide +kernel
theorem dX10_isOneOnTop_19 : decode cX10_isOneOnTop 19 = .ok (.iload_n 1, 1) := by decide +kernel
theorem dX10_isOneOnTop_20 : decode cX10_isOneOnTop 20 = .ok (.isub, 1) := by decide +kernel
theorem dX10_isOneOnTop_21 : decode cX10_isOneOnTop 21 = .ok (.iaload, 1) := by decide +kernel
theorem dX10_isOneOnTop_22 : decode cX10_isOneOnTop 22 = .ok (.invokestatic 151, 3) := by decide +kernel
theorem dX10_isOneOnTop_25 : decode cX10_isOneOnTop 25 = .ok (.ifCond .eq 7, 3) := by decide +kernel
theorem dX10_isOneOnTop_28 : decode cX10_isOneOnTop 28 = .ok (.iconst 1, 1) := by decide +kernel
theorem dX10_isOneOnTop_29 : decode cX10_isOneOnTop 29 = .ok (.goto 4, 3) := by decide +kernel
theorem dX10_isOneOnTop_32 : decode cX10_isOneOnTop 32 = .ok (.iconst 0, 1) := by decide +kernel
theorem dX10_isOneOnTop_33 : decode cX10_isOneOnTop 33 = .ok (.ireturn, 1) := by decide +kernel
theorem dX10_local_0 : decode cX10_local 0 = .ok (.aload_n 0, 1) := by decide +kernel
theorem dX10_local_1 : decode cX10_local 1 = .ok (.getfield 45, 3) := by decide +kernel
theorem dX10_local_4 : decode cX10_local 4 = .ok (.iload_n 1, 1) := by decide +kernel
theorem dX10_local_5 : decode cX10_local 5 = .ok (.iaload, 1) := by decide +kernel
theorem dX10_local_6 : decode cX10_local 6 = .ok (.iconst 3, 1) := by decide +kernel
theorem dX10_local_7 : decode cX10_local 7 = .ok (.if_icmp .ne 28, 3) := by decide +kernel
theorem dX10_local_10 : decode cX10_local 10 = .ok (.iload_n 1, 1) := by decide +kernel
theorem dX10_local_11 : decode cX10_local 11 = .ok (.ifCond .le 24, 3) := by decide +kernel
theorem dX10_local_14 : decode cX10_local 14 = .ok (.aload_n 0, 1) := by decide +kernel
theorem dX10_local_15 : decode cX10_local 15 = .ok (.getfield 45, 3) := by decide +kernel
theorem dX10_local_18 : decode cX10_local 18 = .ok (.iload_n 1, 1) := by decide +kernel
theorem dX10_local_19 : decode cX10_local 19 = .ok (.iconst 1, 1) := by decide +kernel
theorem dX10_local_20 : decode cX10_local 20 = .ok (.isub, 1) := by decide +kernel
theorem dX10_local_21 : decode cX10_local 21 = .ok (.iaload, 1) := by decide +kernel
theorem dX10_local_22 : decode cX10_local 22 = .ok (.iconst 2, 1) := by decide +kernel
theorem dX10_local_23 : decode cX10_local 23 = .ok (.if_icmp .ne 12, 3) := by decide +kernel
theorem dX10_local_26 : decode cX10_local 26 = .ok (.aload_n 0, 1) := by decide +kernel
theorem dX10_local_27 : decode cX10_local 27 = .ok (.getfield 45, 3) := by decide +kernel
theorem dX10_local_30 : decode cX10_local 30 = .ok (.iload_n 1, 1) := by decide +kernel
theorem dX10_local_31 : decode cX10_local 31 = .ok (.iconst 1, 1) := by decide +kernel
theorem dX10_local_32 : decode cX10_local 32 = .ok (.isub, 1) := by decide +kernel
theorem dX10_local_33 : decode cX10_local 33 = .ok (.iconst 0, 1) := by decide +kernel
theorem dX10_local_34 : decode cX10_local 34 = .ok (.iastore, 1) := by decide +kernel
theorem dX10_local_35 : decode cX10_local 35 = .ok (.aload_n 0, 1) := by decide +kernel
theorem dX10_local_36 : decode cX10_local 36 = .ok (.getfield 45, 3) := by decide +kernel
theorem dX10_local_39 : decode cX10_local 39 = .ok (.iload_n 1, 1) := by decide +kernel
theorem dX10_local_40 : decode cX10_local 40 = .ok (.iaload, 1) := by decide +kernel
theorem dX10_local_41 : decode cX10_local 41 = .ok (.iconst 2, 1) := by decide +kernel
theorem dX10_local_42 : decode cX10_local 42 = .ok (.if_icmp .ne 30, 3) := by decide +kernel
theorem dX10_local_45 : decode cX10_local 45 = .ok (.iload_n 1, 1) := by decide +kernel
theorem dX10_local_46 : decode cX10_local 46 = .ok (.bipush 7, 2) := by decide +kernel
theorem dX10_local_48 : decode cX10_local 48 = .ok (.if_icmp .ge 24, 3) := by decide +kernel
theorem dX10_local_51 : decode cX10_local 51 = .ok (.aload_n 0, 1) := by decide +kernel
theorem dX10_local_52 : decode cX10_local 52 = .ok (.getfield 45, 3) := by decide +kernel
theorem dX10_local_55 : decode cX10_local 55 = .ok (.iload_n 1, 1) := by decide +kernel
theorem dX10_local_56 : decode cX10_local 56 = .ok (.iconst 1, 1) := by decide +kernel
theorem dX10_local_57 : decode cX10_local 57 = .ok (.iadd, 1) := by decide +kernel
theorem dX10_local_58 : decode cX10_local 58 = .ok (.iaload, 1) := by decide +kernel
theorem dX10_local_59 : decode cX10_local 59 = .ok (.iconst 3, 1) := by decide +kernel
theorem dX10_local_60 : decode cX10_local 60 = .ok (.if_icmp .ne 12, 3) := by decide +kernel
theorem dX10_local_63 : decode cX10_local 63 = .ok (.aload_n 0, 1) := by decide +kernel
theorem dX10_local_64 : decode cX10_local 64 = .ok (.getfield 45, 3) := by decide +kernel
theorem dX10_local_67 : decode cX10_local 67 = .ok (.iload_n 1, 1) := by decide +kernel
theorem dX10_local_68 : decode cX10_local 68 = .ok (.iconst 1, 1) := by decide +kernel
theorem dX10_local_69 : decode cX10_local 69 = .ok (.iadd, 1) := by decide +kernel
theorem dX10_local_70 : decode cX10_local 70 = .ok (.iconst 0, 1) := by decide +kernel
theorem dX10_local_71 : decode cX10_local 71 = .ok (.iastore, 1) := by decide +kernel
theorem dX10_local_72 : decode cX10_local 72 = .ok (.aload_n 0, 1) := by decide +kernel
theorem dX10_local_73 : decode cX10_local 73 = .ok (.getfield 45, 3) := by decide +kernel
theorem dX10_local_76 : decode cX10_local 76 = .ok (.iload_n 1, 1) := by decide +kernel
theorem dX10_local_77 : decode cX10_local 77 = .ok (.iload_n 2, 1) := by decide +kernel
theorem dX10_local_78 : decode cX10_local 78 = .ok (.iastore, 1) := by decide +kernel
theorem dX10_local_79 : decode cX10_local 79 = .ok (.return_, 1) := by decide +kernel
end
section
theorem p_push_le {q z : PL} {k : Int32} (h : p_push q k = some z) (hd : q.2 ≤ 8) : z.2 ≤ 8 := by
  unfold p_push at h
  by_cases c : q.2 = 8
  · rw [if_pos c] at h; cases h
  · rw [if_neg c] at h; cases h; show q.2 + 1 ≤ 8; omega
theorem p_pop_le {q z : PL} {k : Int32} (h : p_pop q k = some z) (hd : q.2 ≤ 8) : z.2 ≤ 8 := by
  unfold p_pop at h
  by_cases c : q.2 = 0
  · rw [if_pos c] at h; cases h
  · rw [if_neg c] at h
    by_cases c2 : r_goes (q.1 (7 + q.2)) k = true
    · rw [if_pos c2] at h; cases h; show q.2 - 1 ≤ 8; omega
    · rw [if_neg c2] at h; cases h
theorem p_pushL_le {q z : PL} (h : p_pushL q = some z) (hd : q.2 ≤ 8) : z.2 ≤ 8 := by
  unfold p_pushL at h
  cases h1 : p_push q 2 with
  | none => rw [h1] at h; cases h
  | some w => rw [h1] at h; exact p_push_le (q := w) h (p_push_le h1 hd)
theorem p_popL_le {q z : PL} (h : p_popL q = some z) (hd : q.2 ≤ 8) : z.2 ≤ 8 := by
  unfold p_popL at h
  by_cases c : 2 ≤ q.2 ∧ q.1 (7 + q.2) = 3 ∧ q.1 (6 + q.2) = 2
  · rw [if_pos c] at h; cases h; show q.2 - 2 ≤ 8; omega
  · rw [if_neg c] at h; cases h
theorem v_X10_push : mVm yX10_push cX10_push 2 (some .boolean) 1 := ⟨cd_X10_push, im_X10_push, se_X10_push, ini_X10, by decide, by decide, by decide +kernel⟩
set_option maxHeartbeats 4000000 in
set_option maxRecDepth 100000 in
theorem k_X10_push (Γ : mG) (l : Launch) (L : mI → Nat) (x : RS) (h : Nat → Int32) (d : Nat) (a : Int32) (hd : d ≤ 8) : mMet Γ l yX10_push cX10_push 2 (some .boolean) { frames := 0, cells := 0, slots := 0, locals := 0 } [.ref (L (.inl 0)), .int a] L (rM Γ L (sH x (h, d))) (mQi Γ (mHand Γ L x (p_push (h, d) a))) := by
  refine m_start (by decide) (Nat.le_of_ble_eq_true rfl) ?_
  intro p e s m args below meth c A ls X hr hlk hnm hw hS hl
  have hx := X.1.1
  have hb := X.1.2.1
  have hl : lv_has ls 2 [(0, .ref (L (.inl 0))), (1, .int a)] := hl
  refine lv_aload_n hx hb dX10_push_0 rfl (lv_at hl 0 rfl) ?_
  refine h_get15 X hw dX10_push_1 ?_
  refine lv_bipush (v := 8) hx hb dX10_push_4 (by decide) ?_
  refine lv_icmp_ne (tgt := 11) hx hb dX10_push_6 (by decide) (fun c_1 => ?_) (fun c_1 => ?_)
  · skip
    have c_1n : ¬ d = 8 := nneT (a := d) (b := 8) rfl rfl (by omega) (by omega) c_1
    refine lv_aload_n hx hb dX10_push_11 rfl (lv_at hl 0 rfl) ?_
    refine r_get14 X hw dX10_push_12 ?_
    refine lv_bipush (v := 8) hx hb dX10_push_15 (by decide) ?_
    refine lv_aload_n hx hb dX10_push_17 rfl (lv_at hl 0 rfl) ?_
    refine h_get15 X hw dX10_push_18 ?_
    refine lv_iadd hx hb dX10_push_21 ?_
    refine lv_iload_n hx hb dX10_push_22 rfl (lv_at hl 1 rfl) ?_
    refine h_ast14 X hw hS (nadd (a := 8) (b := d) rfl rfl) (by omega) dX10_push_23 (fun H locs hw hS => ?_)
    refine lv_aload_n hx hb dX10_push_24 rfl (lv_at hl 0 rfl) ?_
    refine lv_dup hx hb dX10_push_25 rfl ?_
    refine h_get15 X hw dX10_push_26 ?_
    refine lv_iconst (v := 1) hx hb dX10_push_29 (by decide) ?_
    refine lv_iadd hx hb dX10_push_30 ?_
    refine h_put15 X hw hS (nadd (a := d) (b := 1) rfl rfl) dX10_push_31 (fun H locs hw hS => ?_)
    refine lv_iconst (v := 1) hx hb dX10_push_34 (by decide) ?_
    exact m_zret (b := true) X hr hlk hw hS (Nat.zero_le _) (Nat.zero_le _) rfl ⟨(upd h (8 + d) a, d + 1), rfl, rfl, by clear hb hx hl hS hw hnm hlk hr X; (try simp_all [bI, Nat.pos_iff_ne_zero, p_push]); first | done | (rw [if_neg (fun z => absurd z.1 (by omega))]; done) | (rw [if_neg (fun z => absurd z.1 (by omega))]; trivial) | (intro z; omega)⟩ dX10_push_35
  · skip
    have c_1n : d = 8 := nneF (a := d) (b := 8) rfl rfl (by omega) (by omega) c_1
    refine lv_iconst (v := 0) hx hb dX10_push_9 (by decide) ?_
    exact m_zret (b := false) X hr hlk hw hS (Nat.zero_le _) (Nat.zero_le _) rfl ⟨(h, d), rfl, rfl, by clear hb hx hl hS hw hnm hlk hr X; (try simp_all [bI, Nat.pos_iff_ne_zero, p_push]); first | done | (rw [if_neg (fun z => absurd z.1 (by omega))]; done) | (rw [if_neg (fun z => absurd z.1 (by omega))]; trivial) | (intro z; omega)⟩ dX10_push_10
theorem v_X10_pop : mVm yX10_pop cX10_pop 2 (some .boolean) 1 := ⟨cd_X10_pop, im_X10_pop, se_X10_pop, ini_X10, by decide, by decide, by decide +kernel⟩
set_option maxHeartbeats 4000000 in
set_option maxRecDepth 100000 in
theorem k_X10_pop (Γ : mG) (l : Launch) (L : mI → Nat) (x : RS) (h : Nat → Int32) (d : Nat) (a : Int32) (hd : d ≤ 8) : mMet Γ l yX10_pop cX10_pop 2 (some .boolean) { frames := 4, cells := 0, slots := 0, locals := 86 } [.ref (L (.inl 0)), .int a] L (rM Γ L (sH x (h, d))) (mQi Γ (mHand Γ L x (p_pop (h, d) a))) := by
  refine m_start (by decide) (Nat.le_of_ble_eq_true rfl) ?_
  intro p e s m args below meth c A ls X hr hlk hnm hw hS hl
  have hx := X.1.1
  have hb := X.1.2.1
  have hl : lv_has ls 2 [(0, .ref (L (.inl 0))), (1, .int a)] := hl
  refine lv_aload_n hx hb dX10_pop_0 rfl (lv_at hl 0 rfl) ?_
  refine h_get15 X hw dX10_pop_1 ?_
  refine lv_if_eq (tgt := 26) hx hb dX10_pop_4 (by decide) (fun c_1 => ?_) (fun c_1 => ?_)
  · skip
    have c_1n : d = 0 := neqT (a := d) (b := 0) rfl rfl (by omega) (by omega) c_1
    refine lv_iconst (v := 0) hx hb dX10_pop_26 (by decide) ?_
    exact m_zret (b := false) X hr hlk hw hS (Nat.zero_le _) (Nat.zero_le _) rfl ⟨(h, d), rfl, rfl, by clear hb hx hl hS hw hnm hlk hr X; (try simp_all [bI, Nat.pos_iff_ne_zero, p_pop]); first | done | (rw [if_neg (fun z => absurd z.1 (by omega))]; done) | (rw [if_neg (fun z => absurd z.1 (by omega))]; trivial) | (intro z; omega)⟩ dX10_pop_27
  · skip
    have c_1n : ¬ d = 0 := neqF (a := d) (b := 0) rfl rfl (by omega) (by omega) c_1
    refine lv_aload_n hx hb dX10_pop_7 rfl (lv_at hl 0 rfl) ?_
    refine r_get14 X hw dX10_pop_8 ?_
    refine lv_bipush (v := 7) hx hb dX10_pop_11 (by decide) ?_
    refine lv_aload_n hx hb dX10_pop_13 rfl (lv_at hl 0 rfl) ?_
    refine h_get15 X hw dX10_pop_14 ?_
    refine lv_iadd hx hb dX10_pop_17 ?_
    refine h_ald14 X hw (nadd (a := 7) (b := d) rfl rfl) (by omega) dX10_pop_18 ?_
    refine lv_iload_n hx hb dX10_pop_19 rfl (lv_at hl 1 rfl) ?_
    refine m_calli (m_runS (As := [.int (h (7 + d)), .int a]) (rest := []) X (k_X10_goes Γ l L (rM Γ L (sH x (h, d))) (h (7 + d)) a) s_X10_goes ml_X10_125 hw hS rfl hl.1 ⟨Nat.le_of_ble_eq_true rfl, Nat.le_of_ble_eq_true rfl⟩ (Nat.le_of_ble_eq_true rfl) ⟨Nat.le_of_ble_eq_true rfl, Nat.le_of_ble_eq_true rfl⟩ dX10_pop_20) hS (fun r_3 L1 M1 H locs hp_2 hw hS => ?_)
    obtain ⟨rfl, e1, e2⟩ := hp_2
    rw [e1, e2] at hw; clear e1 e2
    refine lv_if_ne (tgt := 28) hx hb dX10_pop_23 (by decide) (fun c_4 => ?_) (fun c_4 => ?_)
    · skip
      have c_4 := bI_t c_4
      refine lv_aload_n hx hb dX10_pop_28 rfl (lv_at hl 0 rfl) ?_
      refine lv_dup hx hb dX10_pop_29 rfl ?_
      refine h_get15 X hw dX10_pop_30 ?_
      refine lv_iconst (v := 1) hx hb dX10_pop_33 (by decide) ?_
      refine lv_isub hx hb dX10_pop_34 ?_
      refine h_put15 X hw hS (nsub (a := d) (b := 1) (by omega) rfl rfl) dX10_pop_35 (fun H locs hw hS => ?_)
      refine lv_iconst (v := 1) hx hb dX10_pop_38 (by decide) ?_
      exact m_zret (b := true) X hr hlk hw hS (Nat.zero_le _) (Nat.zero_le _) rfl ⟨(h, d - 1), rfl, rfl, by clear hb hx hl hS hw hnm hlk hr X; (try simp_all [bI, Nat.pos_iff_ne_zero, p_pop]); first | done | (rw [if_neg (fun z => absurd z.1 (by omega))]; done) | (rw [if_neg (fun z => absurd z.1 (by omega))]; trivial) | (intro z; omega)⟩ dX10_pop_39
    · skip
      have c_4 := bI_f c_4
      refine lv_iconst (v := 0) hx hb dX10_pop_26 (by decide) ?_
      exact m_zret (b := false) X hr hlk hw hS (Nat.zero_le _) (Nat.zero_le _) rfl ⟨(h, d), rfl, rfl, by clear hb hx hl hS hw hnm hlk hr X; (try simp_all [bI, Nat.pos_iff_ne_zero, p_pop]); first | done | (rw [if_neg (fun z => absurd z.1 (by omega))]; done) | (rw [if_neg (fun z => absurd z.1 (by omega))]; trivial) | (intro z; omega)⟩ dX10_pop_27
theorem v_X10_pushLong : mVm yX10_pushLong cX10_pushLong 1 (some .boolean) 0 := ⟨cd_X10_pushLong, im_X10_pushLong, se_X10_pushLong, ini_X10, by decide, by decide, by decide +kernel⟩
set_option maxHeartbeats 4000000 in
set_option maxRecDepth 100000 in
theorem k_X10_pushLong (Γ : mG) (l : Launch) (L : mI → Nat) (x : RS) (h : Nat → Int32) (d : Nat)  (hd : d ≤ 8) : mMet Γ l yX10_pushLong cX10_pushLong 1 (some .boolean) { frames := 1, cells := 0, slots := 0, locals := 21 } [.ref (L (.inl 0))] L (rM Γ L (sH x (h, d))) (mQi Γ (mHand Γ L x (p_pushL (h, d)))) := by
  refine m_start (by decide) (Nat.le_of_ble_eq_true rfl) ?_
  intro p e s m args below meth c A ls X hr hlk hnm hw hS hl
  have hx := X.1.1
  have hb := X.1.2.1
  have hl : lv_has ls 1 [(0, .ref (L (.inl 0)))] := hl
  refine lv_aload_n hx hb dX10_pushLong_0 rfl (lv_at hl 0 rfl) ?_
  refine lv_iconst (v := 2) hx hb dX10_pushLong_1 (by decide) ?_
  refine m_calli (m_runV (i := .inl 0) (ci := 8) (As := [.int 2]) (rest := []) X (k_X10_push Γ l L x h d 2 (by omega)) v_X10_push ml_X10_148 hw hS rfl rfl rfl rfl hl.1 ⟨Nat.le_of_ble_eq_true rfl, Nat.le_of_ble_eq_true rfl⟩ (Nat.le_of_ble_eq_true rfl) ⟨Nat.le_of_ble_eq_true rfl, Nat.le_of_ble_eq_true rfl⟩ dX10_pushLong_2) hS (fun r_2 L1 M1 H locs hp_1 hw hS => ?_)
  obtain ⟨q_2, e1, e2, e3⟩ := hp_1
  rw [e1, e2] at hw; clear e1 e2
  rcases ho_2 : p_push (h, d) 2 with _ | ⟨h_2, d_2⟩
  · rw [ho_2] at e3; subst e3
    refine lv_if_eq (tgt := 20) hx hb dX10_pushLong_5 (by decide) (fun _ => ?_) (fun h => absurd rfl h)
    refine lv_iconst (v := 0) hx hb dX10_pushLong_20 (by decide) ?_
    exact m_zret (b := false) X hr hlk hw hS (Nat.zero_le _) (Nat.zero_le _) rfl ⟨(q_2.1, q_2.2), rfl, rfl, by clear hb hx hl hS hw hnm hlk hr X; (try simp_all [bI, Nat.pos_iff_ne_zero, p_pushL]); first | done | (rw [if_neg (fun z => absurd z.1 (by omega))]; done) | (rw [if_neg (fun z => absurd z.1 (by omega))]; trivial) | (intro z; omega)⟩ dX10_pushLong_21
  · rw [ho_2] at e3; obtain ⟨e3, e4⟩ := e3; subst e3; subst e4
    have hd_2 := p_push_le ho_2 (by omega)
    refine lv_if_eq (tgt := 20) hx hb dX10_pushLong_5 (by decide) (fun h => absurd h (by decide)) (fun _ => ?_)
    refine lv_aload_n hx hb dX10_pushLong_8 rfl (lv_at hl 0 rfl) ?_
    refine lv_iconst (v := 3) hx hb dX10_pushLong_9 (by decide) ?_
    refine m_calli (m_runV (i := .inl 0) (ci := 8) (As := [.int 3]) (rest := []) X (k_X10_push Γ l L x h_2 d_2 3 (by omega)) v_X10_push ml_X10_148 hw hS rfl rfl rfl rfl hl.1 ⟨Nat.le_of_ble_eq_true rfl, Nat.le_of_ble_eq_true rfl⟩ (Nat.le_of_ble_eq_true rfl) ⟨Nat.le_of_ble_eq_true rfl, Nat.le_of_ble_eq_true rfl⟩ dX10_pushLong_10) hS (fun r_6 L1 M1 H locs hp_5 hw hS => ?_)
    obtain ⟨q_6, e1, e2, e3⟩ := hp_5
    rw [e1, e2] at hw; clear e1 e2
    rcases ho_6 : p_push (h_2, d_2) 3 with _ | ⟨h_6, d_6⟩
    · rw [ho_6] at e3; subst e3
      refine lv_if_eq (tgt := 20) hx hb dX10_pushLong_13 (by decide) (fun _ => ?_) (fun h => absurd rfl h)
      refine lv_iconst (v := 0) hx hb dX10_pushLong_20 (by decide) ?_
      exact m_zret (b := false) X hr hlk hw hS (Nat.zero_le _) (Nat.zero_le _) rfl ⟨(q_6.1, q_6.2), rfl, rfl, by clear hb hx hl hS hw hnm hlk hr X; (try simp_all [bI, Nat.pos_iff_ne_zero, p_pushL]); first | done | (rw [if_neg (fun z => absurd z.1 (by omega))]; done) | (rw [if_neg (fun z => absurd z.1 (by omega))]; trivial) | (intro z; omega)⟩ dX10_pushLong_21
    · rw [ho_6] at e3; obtain ⟨e3, e4⟩ := e3; subst e3; subst e4
      have hd_6 := p_push_le ho_6 (by omega)
      refine lv_if_eq (tgt := 20) hx hb dX10_pushLong_13 (by decide) (fun h => absurd h (by decide)) (fun _ => ?_)
      refine lv_iconst (v := 1) hx hb dX10_pushLong_16 (by decide) ?_
      refine lv_goto (tgt := 21) hx hb dX10_pushLong_17 (by decide) ?_
      exact m_zret (b := true) X hr hlk hw hS (Nat.zero_le _) (Nat.zero_le _) rfl ⟨(h_6, d_6), rfl, rfl, by clear hb hx hl hS hw hnm hlk hr X; (try simp_all [bI, Nat.pos_iff_ne_zero, p_pushL]); first | done | (rw [if_neg (fun z => absurd z.1 (by omega))]; done) | (rw [if_neg (fun z => absurd z.1 (by omega))]; trivial) | (intro z; omega)⟩ dX10_pushLong_21
theorem v_X10_popLong : mVm yX10_popLong cX10_popLong 1 (some .boolean) 0 := ⟨cd_X10_popLong, im_X10_popLong, se_X10_popLong, ini_X10, by decide, by decide, by decide +kernel⟩
set_option maxHeartbeats 4000000 in
set_option maxRecDepth 100000 in
theorem k_X10_popLong (Γ : mG) (l : Launch) (L : mI → Nat) (x : RS) (h : Nat → Int32) (d : Nat)  (hd : d ≤ 8) : mMet Γ l yX10_popLong cX10_popLong 1 (some .boolean) { frames := 0, cells := 0, slots := 0, locals := 0 } [.ref (L (.inl 0))] L (rM Γ L (sH x (h, d))) (mQi Γ (mHand Γ L x (p_popL (h, d)))) := by
  refine m_start (by decide) (Nat.le_of_ble_eq_true rfl) ?_
  intro p e s m args below meth c A ls X hr hlk hnm hw hS hl
  have hx := X.1.1
  have hb := X.1.2.1
  have hl : lv_has ls 1 [(0, .ref (L (.inl 0)))] := hl
  refine lv_aload_n hx hb dX10_popLong_0 rfl (lv_at hl 0 rfl) ?_
  refine h_get15 X hw dX10_popLong_1 ?_
  refine lv_iconst (v := 2) hx hb dX10_popLong_4 (by decide) ?_
  refine lv_icmp_lt (tgt := 40) hx hb dX10_popLong_5 (by decide) (fun c_1 => ?_) (fun c_1 => ?_)
  · skip
    have c_1n : d < 2 := nltT (a := d) (b := 2) rfl rfl (by omega) (by omega) c_1
    have c_1m : ¬ 2 ≤ d := by omega
    refine lv_iconst (v := 0) hx hb dX10_popLong_40 (by decide) ?_
    exact m_zret (b := false) X hr hlk hw hS (Nat.zero_le _) (Nat.zero_le _) rfl ⟨(h, d), rfl, rfl, by clear hb hx hl hS hw hnm hlk hr X; (try simp_all [bI, Nat.pos_iff_ne_zero, p_popL]); first | done | (rw [if_neg (fun z => absurd z.1 (by omega))]; done) | (rw [if_neg (fun z => absurd z.1 (by omega))]; trivial) | (intro z; omega)⟩ dX10_popLong_41
  · skip
    have c_1n : ¬ d < 2 := nltF (a := d) (b := 2) rfl rfl (by omega) (by omega) c_1
    have c_1m : 2 ≤ d := by omega
    refine lv_aload_n hx hb dX10_popLong_8 rfl (lv_at hl 0 rfl) ?_
    refine r_get14 X hw dX10_popLong_9 ?_
    refine lv_bipush (v := 7) hx hb dX10_popLong_12 (by decide) ?_
    refine lv_aload_n hx hb dX10_popLong_14 rfl (lv_at hl 0 rfl) ?_
    refine h_get15 X hw dX10_popLong_15 ?_
    refine lv_iadd hx hb dX10_popLong_18 ?_
    refine h_ald14 X hw (nadd (a := 7) (b := d) rfl rfl) (by omega) dX10_popLong_19 ?_
    refine lv_iconst (v := 3) hx hb dX10_popLong_20 (by decide) ?_
    refine lv_icmp_ne (tgt := 40) hx hb dX10_popLong_21 (by decide) (fun c_2 => ?_) (fun c_2 => ?_)
    · skip
      refine lv_iconst (v := 0) hx hb dX10_popLong_40 (by decide) ?_
      exact m_zret (b := false) X hr hlk hw hS (Nat.zero_le _) (Nat.zero_le _) rfl ⟨(h, d), rfl, rfl, by clear hb hx hl hS hw hnm hlk hr X; (try simp_all [bI, Nat.pos_iff_ne_zero, p_popL]); first | done | (rw [if_neg (fun z => absurd z.1 (by omega))]; done) | (rw [if_neg (fun z => absurd z.1 (by omega))]; trivial) | (intro z; omega)⟩ dX10_popLong_41
    · skip
      refine lv_aload_n hx hb dX10_popLong_24 rfl (lv_at hl 0 rfl) ?_
      refine r_get14 X hw dX10_popLong_25 ?_
      refine lv_bipush (v := 6) hx hb dX10_popLong_28 (by decide) ?_
      refine lv_aload_n hx hb dX10_popLong_30 rfl (lv_at hl 0 rfl) ?_
      refine h_get15 X hw dX10_popLong_31 ?_
      refine lv_iadd hx hb dX10_popLong_34 ?_
      refine h_ald14 X hw (nadd (a := 6) (b := d) rfl rfl) (by omega) dX10_popLong_35 ?_
      refine lv_iconst (v := 2) hx hb dX10_popLong_36 (by decide) ?_
      refine lv_icmp_eq (tgt := 42) hx hb dX10_popLong_37 (by decide) (fun c_3 => ?_) (fun c_3 => ?_)
      · skip
        refine lv_aload_n hx hb dX10_popLong_42 rfl (lv_at hl 0 rfl) ?_
        refine lv_dup hx hb dX10_popLong_43 rfl ?_
        refine h_get15 X hw dX10_popLong_44 ?_
        refine lv_iconst (v := 2) hx hb dX10_popLong_47 (by decide) ?_
        refine lv_isub hx hb dX10_popLong_48 ?_
        refine h_put15 X hw hS (nsub (a := d) (b := 2) (by omega) rfl rfl) dX10_popLong_49 (fun H locs hw hS => ?_)
        refine lv_iconst (v := 1) hx hb dX10_popLong_52 (by decide) ?_
        exact m_zret (b := true) X hr hlk hw hS (Nat.zero_le _) (Nat.zero_le _) rfl ⟨(h, d - 2), rfl, rfl, by clear hb hx hl hS hw hnm hlk hr X; (try simp_all [bI, Nat.pos_iff_ne_zero, p_popL]); first | done | (rw [if_neg (fun z => absurd z.1 (by omega))]; done) | (rw [if_neg (fun z => absurd z.1 (by omega))]; trivial) | (intro z; omega)⟩ dX10_popLong_53
      · skip
        refine lv_iconst (v := 0) hx hb dX10_popLong_40 (by decide) ?_
        exact m_zret (b := false) X hr hlk hw hS (Nat.zero_le _) (Nat.zero_le _) rfl ⟨(h, d), rfl, rfl, by clear hb hx hl hS hw hnm hlk hr X; (try simp_all [bI, Nat.pos_iff_ne_zero, p_popL]); first | done | (rw [if_neg (fun z => absurd z.1 (by omega))]; done) | (rw [if_neg (fun z => absurd z.1 (by omega))]; trivial) | (intro z; omega)⟩ dX10_popLong_41
theorem v_X10_isOneOnTop : mVm yX10_isOneOnTop cX10_isOneOnTop 2 (some .boolean) 1 := ⟨cd_X10_isOneOnTop, im_X10_isOneOnTop, se_X10_isOneOnTop, ini_X10, by decide, by decide, by decide +kernel⟩
set_option maxHeartbeats 4000000 in
set_option maxRecDepth 100000 in
theorem k_X10_isOneOnTop (Γ : mG) (l : Launch) (L : mI → Nat) (x : RS) (h : Nat → Int32) (d : Nat) (a : Int32) (n : Nat) (hn : a = nI n) (hn8 : n ≤ 1) (hd : d ≤ 8) : mMet Γ l yX10_isOneOnTop cX10_isOneOnTop 2 (some .boolean) { frames := 1, cells := 0, slots := 0, locals := 20 } [.ref (L (.inl 0)), .int a] L (rM Γ L (sH x (h, d))) (mQi Γ (fun r L1 M1 => r = bI (p_one (h, d) n) ∧ L1 = L ∧ M1 = rM Γ L (sH x (h, d)))) := by
  refine m_start (by decide) (Nat.le_of_ble_eq_true rfl) ?_
  intro p e s m args below meth c A ls X hr hlk hnm hw hS hl
  have hx := X.1.1
  have hb := X.1.2.1
  have hl : lv_has ls 2 [(0, .ref (L (.inl 0))), (1, .int a)] := hl
  refine lv_aload_n hx hb dX10_isOneOnTop_0 rfl (lv_at hl 0 rfl) ?_
  refine h_get15 X hw dX10_isOneOnTop_1 ?_
  refine lv_iload_n hx hb dX10_isOneOnTop_4 rfl (lv_at hl 1 rfl) ?_
  refine lv_icmp_le (tgt := 32) hx hb dX10_isOneOnTop_5 (by decide) (fun c_1 => ?_) (fun c_1 => ?_)
  · skip
    have c_1n : d ≤ n := nleT (a := d) (b := n) rfl hn (by omega) (by omega) c_1
    have c_1m : ¬ n < d := by omega
    refine lv_iconst (v := 0) hx hb dX10_isOneOnTop_32 (by decide) ?_
    exact m_zret (b := p_one (h, d) n) X hr hlk hw hS (Nat.zero_le _) (Nat.zero_le _) (by clear hb hx hl hS hw hnm hlk hr X; (try simp_all [bI, p_one, Nat.pos_iff_ne_zero]); first | done | (rw [if_neg (fun z => absurd z.1 (by omega))]; done) | (rw [if_neg (fun z => absurd z.1 (by omega))]; trivial) | (intro z; omega)) ⟨rfl, rfl, rfl⟩ dX10_isOneOnTop_33
  · skip
    have c_1n : ¬ d ≤ n := nleF (a := d) (b := n) rfl hn (by omega) (by omega) c_1
    have c_1m : n < d := by omega
    refine lv_aload_n hx hb dX10_isOneOnTop_8 rfl (lv_at hl 0 rfl) ?_
    refine r_get14 X hw dX10_isOneOnTop_9 ?_
    refine lv_bipush (v := 7) hx hb dX10_isOneOnTop_12 (by decide) ?_
    refine lv_aload_n hx hb dX10_isOneOnTop_14 rfl (lv_at hl 0 rfl) ?_
    refine h_get15 X hw dX10_isOneOnTop_15 ?_
    refine lv_iadd hx hb dX10_isOneOnTop_18 ?_
    refine lv_iload_n hx hb dX10_isOneOnTop_19 rfl (lv_at hl 1 rfl) ?_
    refine lv_isub hx hb dX10_isOneOnTop_20 ?_
    refine h_ald14 X hw (nsub (a := 7 + d) (b := n) (by omega) (nadd (a := 7) (b := d) rfl rfl) hn) (by omega) dX10_isOneOnTop_21 ?_
    refine m_calli (m_runS (As := [.int (h ((7 + d) - n))]) (rest := []) X (k_X10_isOnePlace Γ l L (rM Γ L (sH x (h, d))) (h ((7 + d) - n))) s_X10_isOnePlace ml_X10_151 hw hS rfl hl.1 ⟨Nat.le_of_ble_eq_true rfl, Nat.le_of_ble_eq_true rfl⟩ (Nat.le_of_ble_eq_true rfl) ⟨Nat.le_of_ble_eq_true rfl, Nat.le_of_ble_eq_true rfl⟩ dX10_isOneOnTop_22) hS (fun r_3 L1 M1 H locs hp_2 hw hS => ?_)
    obtain ⟨rfl, e1, e2⟩ := hp_2
    rw [e1, e2] at hw; clear e1 e2
    refine lv_if_eq (tgt := 32) hx hb dX10_isOneOnTop_25 (by decide) (fun c_4 => ?_) (fun c_4 => ?_)
    · skip
      have c_4 := bI_f c_4
      refine lv_iconst (v := 0) hx hb dX10_isOneOnTop_32 (by decide) ?_
      exact m_zret (b := p_one (h, d) n) X hr hlk hw hS (Nat.zero_le _) (Nat.zero_le _) (by clear hb hx hl hS hw hnm hlk hr X; (try simp_all [bI, p_one, Nat.pos_iff_ne_zero]); first | done | (rw [if_neg (fun z => absurd z.1 (by omega))]; done) | (rw [if_neg (fun z => absurd z.1 (by omega))]; trivial) | (intro z; omega)) ⟨rfl, rfl, rfl⟩ dX10_isOneOnTop_33
    · skip
      have c_4 := bI_t c_4
      refine lv_iconst (v := 1) hx hb dX10_isOneOnTop_28 (by decide) ?_
      refine lv_goto (tgt := 33) hx hb dX10_isOneOnTop_29 (by decide) ?_
      exact m_zret (b := p_one (h, d) n) X hr hlk hw hS (Nat.zero_le _) (Nat.zero_le _) (by clear hb hx hl hS hw hnm hlk hr X; (try simp_all [bI, p_one, Nat.pos_iff_ne_zero]); first | done | (rw [if_neg (fun z => absurd z.1 (by omega))]; done) | (rw [if_neg (fun z => absurd z.1 (by omega))]; trivial) | (intro z; omega)) ⟨rfl, rfl, rfl⟩ dX10_isOneOnTop_33
theorem v_X10_local : mVm yX10_local cX10_local 3 none 2 := ⟨cd_X10_local, im_X10_local, se_X10_local, ini_X10, by decide, by decide, by decide +kernel⟩
set_option maxHeartbeats 4000000 in
set_option maxRecDepth 100000 in
theorem k_X10_local (Γ : mG) (l : Launch) (L : mI → Nat) (x : RS) (h : Nat → Int32) (d : Nat) (a b : Int32) (n : Nat) (hn : a = nI n) (hn8 : n ≤ 7) : mMet Γ l yX10_local cX10_local 3 none { frames := 0, cells := 0, slots := 0, locals := 0 } [.ref (L (.inl 0)), .int a, .int b] L (rM Γ L (sH x (h, d))) (mQv Γ (fun L1 M1 => L1 = L ∧ M1 = rM Γ L (sH x (p_local h n b, d)))) := by
  refine m_start (by decide) (Nat.le_of_ble_eq_true rfl) ?_
  intro p e s m args below meth c A ls X hr hlk hnm hw hS hl
  have hx := X.1.1
  have hb := X.1.2.1
  have hl : lv_has ls 3 [(0, .ref (L (.inl 0))), (1, .int a), (2, .int b)] := hl
  have K72 : ∀ (g : Nat → Int32) (H : Heap) (locs : List Loc) (ls : Array Slot), p_local h n b = upd g n b → mW Γ.1 vwCl A L (rM Γ L (sH x (g, d))) H → va_S A s.heap H locs → lv_has ls 3 [(0, .ref (L (.inl 0))), (1, .int a), (2, .int b)] → W p l e { frames := 0, cells := 0, slots := 0, locals := 0 } s m args below meth c H locs 0 0 (MQ below (mQv Γ (fun L1 M1 => L1 = L ∧ M1 = rM Γ L (sH x (p_local h n b, d))) A) args s 0 0 A) (F0 m 72 ls []) := by
    intro g H locs ls he hw hS hl
    refine lv_aload_n hx hb dX10_local_72 rfl (lv_at hl 0 rfl) ?_
    refine r_get14 X hw dX10_local_73 ?_
    refine lv_iload_n hx hb dX10_local_76 rfl (lv_at hl 1 rfl) ?_
    refine lv_iload_n hx hb dX10_local_77 rfl (lv_at hl 2 rfl) ?_
    refine h_ast14 X hw hS hn (by omega) dX10_local_78 (fun H locs hw hS => ?_)
    exact m_vret X hr hlk hw hS (Nat.zero_le _) (Nat.zero_le _) ⟨rfl, by rw [he]⟩ dX10_local_79
  have K35 : ∀ (g : Nat → Int32) (H : Heap) (locs : List Loc) (ls : Array Slot), p_local h n b = upd (p_local2 g n) n b → mW Γ.1 vwCl A L (rM Γ L (sH x (g, d))) H → va_S A s.heap H locs → lv_has ls 3 [(0, .ref (L (.inl 0))), (1, .int a), (2, .int b)] → W p l e { frames := 0, cells := 0, slots := 0, locals := 0 } s m args below meth c H locs 0 0 (MQ below (mQv Γ (fun L1 M1 => L1 = L ∧ M1 = rM Γ L (sH x (p_local h n b, d))) A) args s 0 0 A) (F0 m 35 ls []) := by
    intro g H locs ls he hw hS hl
    refine lv_aload_n hx hb dX10_local_35 rfl (lv_at hl 0 rfl) ?_
    refine r_get14 X hw dX10_local_36 ?_
    refine lv_iload_n hx hb dX10_local_39 rfl (lv_at hl 1 rfl) ?_
    refine h_ald14 X hw hn (by omega) dX10_local_40 ?_
    refine lv_iconst (v := 2) hx hb dX10_local_41 (by decide) ?_
    refine lv_icmp_ne (tgt := 72) hx hb dX10_local_42 (by decide) (fun c_1 => ?_) (fun c_1 => ?_)
    · skip
      exact K72 _ H locs ls (by rw [he]; clear K72 hb hx hl hS hw hnm hlk hr X he; (try simp_all [p_local2, Nat.pos_iff_ne_zero]); first | done | (rw [if_neg (fun z => absurd z.1 (by omega))]; done) | (rw [if_neg (fun z => absurd z.1 (by omega))]; trivial) | (intro z; omega)) hw hS hl
    · skip
      refine lv_iload_n hx hb dX10_local_45 rfl (lv_at hl 1 rfl) ?_
      refine lv_bipush (v := 7) hx hb dX10_local_46 (by decide) ?_
      refine lv_icmp_ge (tgt := 72) hx hb dX10_local_48 (by decide) (fun c_2 => ?_) (fun c_2 => ?_)
      · skip
        have c_2n : n ≥ 7 := ngeT (a := n) (b := 7) hn rfl (by omega) (by omega) c_2
        have c_2m : ¬ n < 7 := by omega
        exact K72 _ H locs ls (by rw [he]; clear K72 hb hx hl hS hw hnm hlk hr X he; (try simp_all [p_local2, Nat.pos_iff_ne_zero]); first | done | (rw [if_neg (fun z => absurd z.1 (by omega))]; done) | (rw [if_neg (fun z => absurd z.1 (by omega))]; trivial) | (intro z; omega)) hw hS hl
      · skip
        have c_2n : ¬ n ≥ 7 := ngeF (a := n) (b := 7) hn rfl (by omega) (by omega) c_2
        have c_2m : n < 7 := by omega
        refine lv_aload_n hx hb dX10_local_51 rfl (lv_at hl 0 rfl) ?_
        refine r_get14 X hw dX10_local_52 ?_
        refine lv_iload_n hx hb dX10_local_55 rfl (lv_at hl 1 rfl) ?_
        refine lv_iconst (v := 1) hx hb dX10_local_56 (by decide) ?_
        refine lv_iadd hx hb dX10_local_57 ?_
        refine h_ald14 X hw (nadd (a := n) (b := 1) hn rfl) (by omega) dX10_local_58 ?_
        refine lv_iconst (v := 3) hx hb dX10_local_59 (by decide) ?_
        refine lv_icmp_ne (tgt := 72) hx hb dX10_local_60 (by decide) (fun c_3 => ?_) (fun c_3 => ?_)
        · skip
          exact K72 _ H locs ls (by rw [he]; clear K72 hb hx hl hS hw hnm hlk hr X he; (try simp_all [p_local2, Nat.pos_iff_ne_zero]); first | done | (rw [if_neg (fun z => absurd z.1 (by omega))]; done) | (rw [if_neg (fun z => absurd z.1 (by omega))]; trivial) | (intro z; omega)) hw hS hl
        · skip
          refine lv_aload_n hx hb dX10_local_63 rfl (lv_at hl 0 rfl) ?_
          refine r_get14 X hw dX10_local_64 ?_
          refine lv_iload_n hx hb dX10_local_67 rfl (lv_at hl 1 rfl) ?_
          refine lv_iconst (v := 1) hx hb dX10_local_68 (by decide) ?_
          refine lv_iadd hx hb dX10_local_69 ?_
          refine lv_iconst (v := 0) hx hb dX10_local_70 (by decide) ?_
          refine h_ast14 X hw hS (nadd (a := n) (b := 1) hn rfl) (by omega) dX10_local_71 (fun H locs hw hS => ?_)
          exact K72 _ H locs ls (by rw [he]; clear K72 hb hx hl hS hw hnm hlk hr X he; (try simp_all [p_local2, Nat.pos_iff_ne_zero]); first | done | (rw [if_neg (fun z => absurd z.1 (by omega))]; done) | (rw [if_neg (fun z => absurd z.1 (by omega))]; trivial) | (intro z; omega)) hw hS hl
  refine lv_aload_n hx hb dX10_local_0 rfl (lv_at hl 0 rfl) ?_
  refine r_get14 X hw dX10_local_1 ?_
  refine lv_iload_n hx hb dX10_local_4 rfl (lv_at hl 1 rfl) ?_
  refine h_ald14 X hw hn (by omega) dX10_local_5 ?_
  refine lv_iconst (v := 3) hx hb dX10_local_6 (by decide) ?_
  refine lv_icmp_ne (tgt := 35) hx hb dX10_local_7 (by decide) (fun c_4 => ?_) (fun c_4 => ?_)
  · skip
    exact K35 _ _ _ ls (by clear K35 K72 hb hx hl hS hw hnm hlk hr X; simp_all [p_local, p_local1, Nat.pos_iff_ne_zero]) hw hS hl
  · skip
    refine lv_iload_n hx hb dX10_local_10 rfl (lv_at hl 1 rfl) ?_
    refine lv_if_le (tgt := 35) hx hb dX10_local_11 (by decide) (fun c_5 => ?_) (fun c_5 => ?_)
    · skip
      have c_5n : n ≤ 0 := nleT (a := n) (b := 0) hn rfl (by omega) (by omega) c_5
      have c_5m : ¬ 0 < n := by omega
      exact K35 _ _ _ ls (by clear K35 K72 hb hx hl hS hw hnm hlk hr X; simp_all [p_local, p_local1, Nat.pos_iff_ne_zero]) hw hS hl
    · skip
      have c_5n : ¬ n ≤ 0 := nleF (a := n) (b := 0) hn rfl (by omega) (by omega) c_5
      have c_5m : 0 < n := by omega
      refine lv_aload_n hx hb dX10_local_14 rfl (lv_at hl 0 rfl) ?_
      refine r_get14 X hw dX10_local_15 ?_
      refine lv_iload_n hx hb dX10_local_18 rfl (lv_at hl 1 rfl) ?_
      refine lv_iconst (v := 1) hx hb dX10_local_19 (by decide) ?_
      refine lv_isub hx hb dX10_local_20 ?_
      refine h_ald14 X hw (nsub (a := n) (b := 1) (by omega) hn rfl) (by omega) dX10_local_21 ?_
      refine lv_iconst (v := 2) hx hb dX10_local_22 (by decide) ?_
      refine lv_icmp_ne (tgt := 35) hx hb dX10_local_23 (by decide) (fun c_6 => ?_) (fun c_6 => ?_)
      · skip
        exact K35 _ _ _ ls (by clear K35 K72 hb hx hl hS hw hnm hlk hr X; simp_all [p_local, p_local1, Nat.pos_iff_ne_zero]) hw hS hl
      · skip
        refine lv_aload_n hx hb dX10_local_26 rfl (lv_at hl 0 rfl) ?_
        refine r_get14 X hw dX10_local_27 ?_
        refine lv_iload_n hx hb dX10_local_30 rfl (lv_at hl 1 rfl) ?_
        refine lv_iconst (v := 1) hx hb dX10_local_31 (by decide) ?_
        refine lv_isub hx hb dX10_local_32 ?_
        refine lv_iconst (v := 0) hx hb dX10_local_33 (by decide) ?_
        refine h_ast14 X hw hS (nsub (a := n) (b := 1) (by omega) hn rfl) (by omega) dX10_local_34 (fun H locs hw hS => ?_)
        exact K35 _ _ _ ls (by clear K35 K72 hb hx hl hS hw hnm hlk hr X; simp_all [p_local, p_local1, Nat.pos_iff_ne_zero]) hw hS hl
end
section
theorem dX10_isMethod_0 : decode cX10_isMethod 0 = .ok (.iload_n 1, 1) := by decide +kernel
theorem dX10_isMethod_1 : decode cX10_isMethod 1 = .ok (.i2l, 1) := by decide +kernel
theorem dX10_isMethod_2 : decode cX10_isMethod 2 = .ok (.lconst 0, 1) := by decide +kernel
theorem dX10_isMethod_3 : decode cX10_isMethod 3 = .ok (.aload_n 0, 1) := by decide +kernel
theorem dX10_isMethod_4 : decode cX10_isMethod 4 = .ok (.getfield 75, 3) := by decide +kernel
theorem dX10_isMethod_7 : decode cX10_isMethod 7 = .ok (.iconst 1, 1) := by decide +kernel
theorem dX10_isMethod_8 : decode cX10_isMethod 8 = .ok (.isub, 1) := by decide +kernel
theorem dX10_isMethod_9 : decode cX10_isMethod 9 = .ok (.i2l, 1) := by decide +kernel
theorem dX10_isMethod_10 : decode cX10_isMethod 10 = .ok (.invokestatic 79, 3) := by decide +kernel
theorem dX10_isMethod_13 : decode cX10_isMethod 13 = .ok (.ireturn, 1) := by decide +kernel
theorem dX10_kinds_0 : decode cX10_kinds 0 = .ok (.iload_n 1, 1) := by decide +kernel
theorem dX10_kinds_1 : decode cX10_kinds 1 = .ok (.invokestatic 119, 3) := by decide +kernel
theorem dX10_kinds_4 : decode cX10_kinds 4 = .ok (.ifCond .eq 10, 3) := by decide +kernel
theorem dX10_kinds_7 : decode cX10_kinds 7 = .ok (.iload_n 2, 1) := by decide +kernel
theorem dX10_kinds_8 : decode cX10_kinds 8 = .ok (.invokestatic 119, 3) := by decide +kernel
theorem dX10_kinds_11 : decode cX10_kinds 11 = .ok (.ifCond .ne 5, 3) := by decide +kernel
theorem dX10_kinds_14 : decode cX10_kinds 14 = .ok (.iconst (-1), 1) := by decide +kernel
theorem dX10_kinds_15 : decode cX10_kinds 15 = .ok (.ireturn, 1) := by decide +kernel
theorem dX10_kinds_16 : decode cX10_kinds 16 = .ok (.iload_n 3, 1) := by decide +kernel
theorem dX10_kinds_17 : decode cX10_kinds 17 = .ok (.ifCond .ne 11, 3) := by decide +kernel
theorem dX10_kinds_20 : decode cX10_kinds 20 = .ok (.iload_n 1, 1) := by decide +kernel
theorem dX10_kinds_21 : decode cX10_kinds 21 = .ok (.iload_n 2, 1) := by decide +kernel
theorem dX10_kinds_22 : decode cX10_kinds 22 = .ok (.invokestatic 122, 3) := by decide +kernel
theorem dX10_kinds_25 : decode cX10_kinds 25 = .ok (.goto 16, 3) := by decide +kernel
theorem dX10_kinds_28 : decode cX10_kinds 28 = .ok (.iload_n 1, 1) := by decide +kernel
theorem dX10_kinds_29 : decode cX10_kinds 29 = .ok (.iload_n 2, 1) := by decide +kernel
theorem dX10_kinds_30 : decode cX10_kinds 30 = .ok (.invokestatic 125, 3) := by decide +kernel
theorem dX10_kinds_33 : decode cX10_kinds 33 = .ok (.ifCond .eq 7, 3) := by decide +kernel
theorem dX10_kinds_36 : decode cX10_kinds 36 = .ok (.iconst 1, 1) := by decide +kernel
theorem dX10_kinds_37 : decode cX10_kinds 37 = .ok (.goto 4, 3) := by decide +kernel
theorem dX10_kinds_40 : decode cX10_kinds 40 = .ok (.iconst 0, 1) := by decide +kernel
theorem dX10_kinds_41 : decode cX10_kinds 41 = .ok (.ireturn, 1) := by decide +kernel
theorem dX10_changed_0 : decode cX10_changed 0 = .ok (.aload_n 0, 1) := by decide +kernel
theorem dX10_changed_1 : decode cX10_changed 1 = .ok (.getfield 35, 3) := by decide +kernel
theorem dX10_changed_4 : decode cX10_changed 4 = .ok (.iload_n 1, 1) := by decide +kernel
theorem dX10_changed_5 : decode cX10_changed 5 = .ok (.iconst 0, 1) := by decide +kernel
theorem dX10_changed_6 : decode cX10_changed 6 = .ok (.bastore, 1) := by decide +kernel
theorem dX10_changed_7 : decode cX10_changed 7 = .ok (.return_, 1) := by decide +kernel
theorem dX10_told_0 : decode cX10_told 0 = .ok (.iload_n 1, 1) := by decide +kernel
theorem dX10_told_1 : decode cX10_told 1 = .ok (.tableswitch 84 0 4 #[35, 40, 45, 50, 67], 35) := by decide +kernel
theorem dX10_told_36 : decode cX10_told 36 = .ok (.aload_n 0, 1) := by decide +kernel
theorem dX10_told_37 : decode cX10_told 37 = .ok (.getfield 251, 3) := by decide +kernel
theorem dX10_told_40 : decode cX10_told 40 = .ok (.ireturn, 1) := by decide +kernel
theorem dX10_told_41 : decode cX10_told 41 = .ok (.aload_n 0, 1) := by decide +kernel
theorem dX10_told_42 : decode cX10_told 42 = .ok (.getfield 254, 3) := by decide +kernel
theorem dX10_told_45 : decode cX10_told 45 = .ok (.ireturn, 1) := by decide +kernel
theorem dX10_told_46 : decode cX10_told 46 = .ok (.aload_n 0, 1) := by decide +kernel
theorem dX10_told_47 : decode cX10_told 47 = .ok (.getfield 248, 3) := by decide +kernel
theorem dX10_told_50 : decode cX10_told 50 = .ok (.ireturn, 1) := by decide +kernel
theorem dX10_told_51 : decode cX10_told 51 = .ok (.aload_n 0, 1) := by decide +kernel
theorem dX10_told_52 : decode cX10_told 52 = .ok (.getfield 245, 3) := by decide +kernel
theorem dX10_told_55 : decode cX10_told 55 = .ok (.ifCond .eq 10, 3) := by decide +kernel
theorem dX10_told_58 : decode cX10_told 58 = .ok (.aload_n 0, 1) := by decide +kernel
theorem dX10_told_59 : decode cX10_told 59 = .ok (.getfield 257, 3) := by decide +kernel
theorem dX10_told_62 : decode cX10_told 62 = .ok (.goto 5, 3) := by decide +kernel
theorem dX10_told_65 : decode cX10_told 65 = .ok (.ldc 234, 2) := by decide +kernel
theorem dX10_told_67 : decode cX10_told 67 = .ok (.ireturn, 1) := by decide +kernel
theorem dX10_told_68 : decode cX10_told 68 = .ok (.aload_n 0, 1) := by decide +kernel
theorem dX10_told_69 : decode cX10_told 69 = .ok (.getfield 245, 3) := by decide +kernel
theorem dX10_told_72 : decode cX10_told 72 = .ok (.ifCond .eq 10, 3) := by decide +kernel
theorem dX10_told_75 : decode cX10_told 75 = .ok (.aload_n 0, 1) := by decide +kernel
theorem dX10_told_76 : decode cX10_told 76 = .ok (.getfield 260, 3) := by decide +kernel
theorem dX10_told_79 : decode cX10_told 79 = .ok (.goto 5, 3) := by decide +kernel
theorem dX10_told_82 : decode cX10_told 82 = .ok (.ldc 234, 2) := by decide +kernel
theorem dX10_told_84 : decode cX10_told 84 = .ok (.ireturn, 1) := by decide +kernel
theorem dX10_told_85 : decode cX10_told 85 = .ok (.iconst (-1), 1) := by decide +kernel
theorem dX10_told_86 : decode cX10_told 86 = .ok (.ireturn, 1) := by decide +kernel
theorem dX10_count_0 : decode cX10_count 0 = .ok (.iload_n 1, 1) := by decide +kernel
theorem dX10_count_1 : decode cX10_count 1 = .ok (.ifCond .ne 8, 3) := by decide +kernel
theorem dX10_count_4 : decode cX10_count 4 = .ok (.aload_n 0, 1) := by decide +kernel
theorem dX10_count_5 : decode cX10_count 5 = .ok (.getfield 75, 3) := by decide +kernel
theorem dX10_count_8 : decode cX10_count 8 = .ok (.ireturn, 1) := by decide +kernel
theorem dX10_count_9 : decode cX10_count 9 = .ok (.iload_n 1, 1) := by decide +kernel
theorem dX10_count_10 : decode cX10_count 10 = .ok (.i2l, 1) := by decide +kernel
theorem dX10_count_11 : decode cX10_count 11 = .ok (.lconst 1, 1) := by decide +kernel
theorem dX10_count_12 : decode cX10_count 12 = .ok (.ldc2_w 278, 3) := by decide +kernel
theorem dX10_count_15 : decode cX10_count 15 = .ok (.invokestatic 79, 3) := by decide +kernel
theorem dX10_count_18 : decode cX10_count 18 = .ok (.ifCond .eq 11, 3) := by decide +kernel
theorem dX10_count_21 : decode cX10_count 21 = .ok (.aload_n 0, 1) := by decide +kernel
theorem dX10_count_22 : decode cX10_count 22 = .ok (.iload_n 2, 1) := by decide +kernel
theorem dX10_count_23 : decode cX10_count 23 = .ok (.invokevirtual 130, 3) := by decide +kernel
theorem dX10_count_26 : decode cX10_count 26 = .ok (.ifCond .ne 5, 3) := by decide +kernel
theorem dX10_count_29 : decode cX10_count 29 = .ok (.iconst (-1), 1) := by decide +kernel
theorem dX10_count_30 : decode cX10_count 30 = .ok (.ireturn, 1) := by decide +kernel
theorem dX10_count_31 : decode cX10_count 31 = .ok (.iload_n 1, 1) := by decide +kernel
theorem dX10_count_32 : decode cX10_count 32 = .ok (.iconst 1, 1) := by decide +kernel
theorem dX10_count_33 : decode cX10_count 33 = .ok (.if_icmp .ne 12, 3) := by decide +kernel
theorem dX10_count_36 : decode cX10_count 36 = .ok (.aload_n 0, 1) := by decide +kernel
theorem dX10_count_37 : decode cX10_count 37 = .ok (.getfield 13, 3) := by decide +kernel
theorem dX10_count_40 : decode cX10_count 40 = .ok (.iload_n 2, 1) := by decide +kernel
theorem dX10_count_41 : decode cX10_count 41 = .ok (.iaload, 1) := by decide +kernel
theorem dX10_count_42 : decode cX10_count 42 = .ok (.goto 31, 3) := by decide +kernel
theorem dX10_count_45 : decode cX10_count 45 = .ok (.iload_n 1, 1) := by decide +kernel
theorem dX10_count_46 : decode cX10_count 46 = .ok (.iconst 2, 1) := by decide +kernel
theorem dX10_count_47 : decode cX10_count 47 = .ok (.if_icmp .ne 12, 3) := by decide +kernel
theorem dX10_count_50 : decode cX10_count 50 = .ok (.aload_n 0, 1) := by decide +kernel
theorem dX10_count_51 : decode cX10_count 51 = .ok (.getfield 23, 3) := by decide +kernel
theorem dX10_count_54 : decode cX10_count 54 = .ok (.iload_n 2, 1) := by decide +kernel
theorem dX10_count_55 : decode cX10_count 55 = .ok (.iaload, 1) := by decide +kernel
theorem dX10_count_56 : decode cX10_count 56 = .ok (.goto 17, 3) := by decide +kernel
theorem dX10_count_59 : decode cX10_count 59 = .ok (.aload_n 0, 1) := by decide +kernel
theorem dX10_count_60 : decode cX10_count 60 = .ok (.getfield 35, 3) := by decide +kernel
theorem dX10_count_63 : decode cX10_count 63 = .ok (.iload_n 2, 1) := by decide +kernel
theorem dX10_count_64 : decode cX10_count 64 = .ok (.baload, 1) := by decide +kernel
theorem dX10_count_65 : decode cX10_count 65 = .ok (.ifCond .eq 7, 3) := by decide +kernel
theorem dX10_count_68 : decode cX10_count 68 = .ok (.iconst 1, 1) := by decide +kernel
theorem dX10_count_69 : decode cX10_count 69 = .ok (.goto 4, 3) := by decide +kernel
theorem dX10_count_72 : decode cX10_count 72 = .ok (.iconst 0, 1) := by decide +kernel
theorem dX10_count_73 : decode cX10_count 73 = .ok (.ireturn, 1) := by decide +kernel
theorem dX10_rounds_0 : decode cX10_rounds 0 = .ok (.aload_n 0, 1) := by decide +kernel
theorem dX10_rounds_1 : decode cX10_rounds 1 = .ok (.getfield 225, 3) := by decide +kernel
theorem dX10_rounds_4 : decode cX10_rounds 4 = .ok (.ireturn, 1) := by decide +kernel
theorem dX10_answer_0 : decode cX10_answer 0 = .ok (.aload_n 0, 1) := by decide +kernel
theorem dX10_answer_1 : decode cX10_answer 1 = .ok (.getfield 263, 3) := by decide +kernel
theorem dX10_answer_4 : decode cX10_answer 4 = .ok (.ireturn, 1) := by decide +kernel
theorem dX10_method_0 : decode cX10_method 0 = .ok (.iload_n 1, 1) := by decide +kernel
theorem dX10_method_1 : decode cX10_method 1 = .ok (.i2l, 1) := by decide +kernel
theorem dX10_method_2 : decode cX10_method 2 = .ok (.lconst 0, 1) := by decide +kernel
theorem dX10_method_3 : decode cX10_method 3 = .ok (.ldc2_w 128, 3) := by decide +kernel
theorem dX10_method_6 : decode cX10_method 6 = .ok (.invokestatic 79, 3) := by decide +kernel
theorem dX10_method_9 : decode cX10_method 9 = .ok (.ifCond .ne 5, 3) := by decide +kernel
theorem dX10_method_12 : decode cX10_method 12 = .ok (.iconst (-1), 1) := by decide +kernel
theorem dX10_method_13 : decode cX10_method 13 = .ok (.ireturn, 1) := by decide +kernel
theorem dX10_method_14 : decode cX10_method 14 = .ok (.aload_n 0, 1) := by decide +kernel
theorem dX10_method_15 : decode cX10_method 15 = .ok (.getfield 75, 3) := by decide +kernel
theorem dX10_method_18 : decode cX10_method 18 = .ok (.bipush 8, 2) := by decide +kernel
theorem dX10_method_20 : decode cX10_method 20 = .ok (.if_icmp .ne 6, 3) := by decide +kernel
theorem dX10_method_23 : decode cX10_method 23 = .ok (.bipush (-3), 2) := by decide +kernel
theorem dX10_method_25 : decode cX10_method 25 = .ok (.ireturn, 1) := by decide +kernel
theorem dX10_method_26 : decode cX10_method 26 = .ok (.aload_n 0, 1) := by decide +kernel
theorem dX10_method_27 : decode cX10_method 27 = .ok (.getfield 7, 3) := by decide +kernel
theorem dX10_method_30 : decode cX10_method 30 = .ok (.aload_n 0, 1) := by decide +kernel
theorem dX10_method_31 : decode cX10_method 31 = .ok (.getfield 75, 3) := by decide +kernel
theorem dX10_method_34 : decode cX10_method 34 = .ok (.iload_n 1, 1) := by decide +kernel
theorem dX10_method_35 : decode cX10_method 35 = .ok (.iastore, 1) := by decide +kernel
theorem dX10_method_36 : decode cX10_method 36 = .ok (.iconst 0, 1) := by decide +kernel
theorem dX10_method_37 : decode cX10_method 37 = .ok (.istore_n 2, 1) := by decide +kernel
theorem dX10_method_38 : decode cX10_method 38 = .ok (.iload_n 2, 1) := by decide +kernel
theorem dX10_method_39 : decode cX10_method 39 = .ok (.bipush 40, 2) := by decide +kernel
theorem dX10_method_41 : decode cX10_method 41 = .ok (.if_icmp .ge 24, 3) := by decide +kernel
theorem dX10_method_44 : decode cX10_method 44 = .ok (.aload_n 0, 1) := by decide +kernel
theorem dX10_method_45 : decode cX10_method 45 = .ok (.getfield 29, 3) := by decide +kernel
theorem dX10_method_48 : decode cX10_method 48 = .ok (.bipush 40, 2) := by decide +kernel
theorem dX10_method_50 : decode cX10_method 50 = .ok (.aload_n 0, 1) := by decide +kernel
theorem dX10_method_51 : decode cX10_method 51 = .ok (.getfield 75, 3) := by decide +kernel
theorem dX10_method_54 : decode cX10_method 54 = .ok (.imul, 1) := by decide +kernel
theorem dX10_method_55 : decode cX10_method 55 = .ok (.iload_n 2, 1) := by decide +kernel
theorem dX10_method_56 : decode cX10_method 56 = .ok (.iadd, 1) := by decide +kernel
theorem dX10_method_57 : decode cX10_method 57 = .ok (.iconst (-1), 1) := by decide +kernel
theorem dX10_method_58 : decode cX10_method 58 = .ok (.iastore, 1) := by decide +kernel
theorem dX10_method_59 : decode cX10_method 59 = .ok (.iinc 2 1, 3) := by decide +kernel
theorem dX10_method_62 : decode cX10_method 62 = .ok (.goto (-24), 3) := by decide +kernel
theorem dX10_method_65 : decode cX10_method 65 = .ok (.aload_n 0, 1) := by decide +kernel
theorem dX10_method_66 : decode cX10_method 66 = .ok (.dup, 1) := by decide +kernel
theorem dX10_method_67 : decode cX10_method 67 = .ok (.getfield 75, 3) := by decide +kernel
theorem dX10_method_70 : decode cX10_method 70 = .ok (.iconst 1, 1) := by decide +kernel
theorem dX10_method_71 : decode cX10_method 71 = .ok (.iadd, 1) := by decide +kernel
theorem dX10_method_72 : decode cX10_method 72 = .ok (.putfield 75, 3) := by decide +kernel
theorem dX10_method_75 : decode cX10_method 75 = .ok (.aload_n 0, 1) := by decide +kernel
theorem dX10_method_76 : decode cX10_method 76 = .ok (.getfield 75, 3) := by decide +kernel
theorem dX10_method_79 : decode cX10_method 79 = .ok (.iconst 1, 1) := by decide +kernel
theorem dX10_method_80 : decode cX10_method 80 = .ok (.isub, 1) := by decide +kernel
theorem dX10_method_81 : decode cX10_method 81 = .ok (.ireturn, 1) := by decide +kernel
theorem dX10_op_0 : decode cX10_op 0 = .ok (.aload_n 0, 1) := by decide +kernel
theorem dX10_op_1 : decode cX10_op 1 = .ok (.iload_n 1, 1) := by decide +kernel
theorem dX10_op_2 : decode cX10_op 2 = .ok (.invokevirtual 130, 3) := by decide +kernel
theorem dX10_op_5 : decode cX10_op 5 = .ok (.ifCond .ne 5, 3) := by decide +kernel
theorem dX10_op_8 : decode cX10_op 8 = .ok (.iconst (-1), 1) := by decide +kernel
theorem dX10_op_9 : decode cX10_op 9 = .ok (.ireturn, 1) := by decide +kernel
theorem dX10_op_10 : decode cX10_op 10 = .ok (.aload_n 0, 1) := by decide +kernel
theorem dX10_op_11 : decode cX10_op 11 = .ok (.getfield 13, 3) := by decide +kernel
theorem dX10_op_14 : decode cX10_op 14 = .ok (.iload_n 1, 1) := by decide +kernel
theorem dX10_op_15 : decode cX10_op 15 = .ok (.iaload, 1) := by decide +kernel
theorem dX10_op_16 : decode cX10_op 16 = .ok (.bipush 40, 2) := by decide +kernel
theorem dX10_op_18 : decode cX10_op 18 = .ok (.if_icmp .ne 6, 3) := by decide +kernel
theorem dX10_op_21 : decode cX10_op 21 = .ok (.bipush (-3), 2) := by decide +kernel
theorem dX10_op_23 : decode cX10_op 23 = .ok (.ireturn, 1) := by decide +kernel
theorem dX10_op_24 : decode cX10_op 24 = .ok (.aload_n 0, 1) := by decide +kernel
theorem dX10_op_25 : decode cX10_op 25 = .ok (.getfield 16, 3) := by decide +kernel
theorem dX10_op_28 : decode cX10_op 28 = .ok (.bipush 40, 2) := by decide +kernel
theorem dX10_op_30 : decode cX10_op 30 = .ok (.iload_n 1, 1) := by decide +kernel
theorem dX10_op_31 : decode cX10_op 31 = .ok (.imul, 1) := by decide +kernel
theorem dX10_op_32 : decode cX10_op 32 = .ok (.aload_n 0, 1) := by decide +kernel
theorem dX10_op_33 : decode cX10_op 33 = .ok (.getfield 13, 3) := by decide +kernel
theorem dX10_op_36 : decode cX10_op 36 = .ok (.iload_n 1, 1) := by decide +kernel
theorem dX10_op_37 : decode cX10_op 37 = .ok (.iaload, 1) := by decide +kernel
theorem dX10_op_38 : decode cX10_op 38 = .ok (.iadd, 1) := by decide +kernel
theorem dX10_op_39 : decode cX10_op 39 = .ok (.iload_n 2, 1) := by decide +kernel
theorem dX10_op_40 : decode cX10_op 40 = .ok (.iastore, 1) := by decide +kernel
theorem dX10_op_41 : decode cX10_op 41 = .ok (.aload_n 0, 1) := by decide +kernel
theorem dX10_op_42 : decode cX10_op 42 = .ok (.getfield 19, 3) := by decide +kernel
theorem dX10_op_45 : decode cX10_op 45 = .ok (.bipush 40, 2) := by decide +kernel
theorem dX10_op_47 : decode cX10_op 47 = .ok (.iload_n 1, 1) := by decide +kernel
theorem dX10_op_48 : decode cX10_op 48 = .ok (.imul, 1) := by decide +kernel
theorem dX10_op_49 : decode cX10_op 49 = .ok (.aload_n 0, 1) := by decide +kernel
theorem dX10_op_50 : decode cX10_op 50 = .ok (.getfield 13, 3) := by decide +kernel
theorem dX10_op_53 : decode cX10_op 53 = .ok (.iload_n 1, 1) := by decide +kernel
theorem dX10_op_54 : decode cX10_op 54 = .ok (.iaload, 1) := by decide +kernel
theorem dX10_op_55 : decode cX10_op 55 = .ok (.iadd, 1) := by decide +kernel
theorem dX10_op_56 : decode cX10_op 56 = .ok (.lload_n 3, 1) := by decide +kernel
theorem dX10_op_57 : decode cX10_op 57 = .ok (.lastore, 1) := by decide +kernel
theorem dX10_op_58 : decode cX10_op 58 = .ok (.aload_n 0, 1) := by decide +kernel
theorem dX10_op_59 : decode cX10_op 59 = .ok (.getfield 13, 3) := by decide +kernel
theorem dX10_op_62 : decode cX10_op 62 = .ok (.iload_n 1, 1) := by decide +kernel
theorem dX10_op_63 : decode cX10_op 63 = .ok (.dup2, 1) := by decide +kernel
theorem dX10_op_64 : decode cX10_op 64 = .ok (.iaload, 1) := by decide +kernel
theorem dX10_op_65 : decode cX10_op 65 = .ok (.iconst 1, 1) := by decide +kernel
theorem dX10_op_66 : decode cX10_op 66 = .ok (.iadd, 1) := by decide +kernel
theorem dX10_op_67 : decode cX10_op 67 = .ok (.iastore, 1) := by decide +kernel
theorem dX10_op_68 : decode cX10_op 68 = .ok (.aload_n 0, 1) := by decide +kernel
theorem dX10_op_69 : decode cX10_op 69 = .ok (.iload_n 1, 1) := by decide +kernel
theorem dX10_op_70 : decode cX10_op 70 = .ok (.invokevirtual 133, 3) := by decide +kernel
theorem dX10_op_73 : decode cX10_op 73 = .ok (.aload_n 0, 1) := by decide +kernel
theorem dX10_op_74 : decode cX10_op 74 = .ok (.getfield 13, 3) := by decide +kernel
theorem dX10_op_77 : decode cX10_op 77 = .ok (.iload_n 1, 1) := by decide +kernel
theorem dX10_op_78 : decode cX10_op 78 = .ok (.iaload, 1) := by decide +kernel
theorem dX10_op_79 : decode cX10_op 79 = .ok (.iconst 1, 1) := by decide +kernel
theorem dX10_op_80 : decode cX10_op 80 = .ok (.isub, 1) := by decide +kernel
theorem dX10_op_81 : decode cX10_op 81 = .ok (.ireturn, 1) := by decide +kernel
end
section
/-! THE REFERENCE'S FACE, first part -/
theorem r_isIn_iff (v a b : Int64) : r_isIn v a b = true ↔ a.toInt ≤ v.toInt ∧ v.toInt ≤ b.toInt := by
  unfold r_isIn
  simp only [Bool.and_eq_true, Bool.not_eq_true', decide_eq_false_iff_not, Int64.lt_iff_toInt_lt]
  omega
theorem i64_toInt (a : Int32) : a.toInt64.toInt = a.toInt := by simp
def r_isM (n : Nat) (a : Int32) : Bool := decide (0 ≤ a.toInt ∧ a.toInt < n)
theorem nat_of_toInt {a : Int32} (h : 0 ≤ a.toInt) : a = nI a.toInt.toNat ∧ a.toInt.toNat < 2 ^ 31 := by
  have hlt : a.toInt < 2 ^ 31 := by have := Int32.toInt_lt a; omega
  have h2 : a.toInt.toNat < 2 ^ 31 := by omega
  refine ⟨Int32.toInt_inj.mp ?_, h2⟩
  rw [nI_toInt h2]
  omega
theorem isM_nat {n : Nat} {a : Int32} (h : r_isM n a = true) : ∃ k : Nat, k < n ∧ a = nI k := by
  have h1 := of_decide_eq_true h
  obtain ⟨e, -⟩ := nat_of_toInt h1.1
  exact ⟨a.toInt.toNat, by omega, e⟩
theorem isM_eq {n : Nat} {a : Int32} (h8 : n ≤ 8) : r_isIn a.toInt64 0 ((nI n - 1).toInt64) = r_isM n a := by
  apply Bool.eq_iff_iff.mpr
  rw [r_isIn_iff, i64_toInt, i64_toInt]
  unfold r_isM
  rw [decide_eq_true_iff]
  have e : (nI n - 1).toInt = (n : Int) - 1 := by
    have := pk_sub_toInt (a := n) (b := 1) (by omega) (by decide)
    exact this
  rw [e]
  show (0 : Int) ≤ a.toInt ∧ a.toInt ≤ (n : Int) - 1 ↔ _
  omega
theorem isIn_nat {a : Int32} {lo hi : Int64} {l h : Nat} (hl : lo.toInt = l) (hh : hi.toInt = h) (c : r_isIn a.toInt64 lo hi = true) : ∃ k : Nat, l ≤ k ∧ k ≤ h ∧ k < 2 ^ 31 ∧ a = nI k := by
  have h1 := (r_isIn_iff _ _ _).mp c
  rw [i64_toInt, hl, hh] at h1
  obtain ⟨e, e2⟩ := nat_of_toInt (a := a) (by omega)
  exact ⟨a.toInt.toNat, by omega, by omega, e2, e⟩
def r_kinds (a b c : Int32) : Int32 := if r_isKind a = true ∧ r_isKind b = true then (if c = 0 then r_joined a b else bI (r_goes a b)) else -1
def r_told (x : RS) (a : Int32) : Int32 := if a = 0 then x.1 29 else if a = 1 then x.1 30 else if a = 2 then x.1 23 else if a = 3 then (if x.1 33 = 0 then -99999999 else x.1 31) else if a = 4 then (if x.1 33 = 0 then -99999999 else x.1 32) else -1
theorem r_told_out {x : RS} {a : Int32} (h : a.toInt < 0 ∨ 4 < a.toInt) : r_told x a = -1 := by
  unfold r_told
  rw [if_neg (fun e => by rw [e] at h; revert h; decide), if_neg (fun e => by rw [e] at h; revert h; decide), if_neg (fun e => by rw [e] at h; revert h; decide), if_neg (fun e => by rw [e] at h; revert h; decide), if_neg (fun e => by rw [e] at h; revert h; decide)]
def r_count (x : RS) (n : Nat) (a b : Int32) : Int32 := if a = 0 then x.1 0 else if r_isIn a.toInt64 1 3 = true ∧ r_isM n b = true then (if a = 1 then x.2.1 2 b.toNatClampNeg else if a = 2 then x.2.1 5 b.toNatClampNeg else if x.2.1 9 b.toNatClampNeg = 0 then 0 else 1) else -1
def fmA (f : Nat → Int32) (o : Nat) (v : Int32) : Nat → Nat → Int32
  | 0 => f
  | n + 1 => upd (fmA f o v n) (o + n) v
def sAs (x : RS) (k : Nat) (f : Nat → Int32) : RS := (x.1, va_up x.2.1 k f, x.2.2)
def r_method (x : RS) (n : Nat) (a : Int32) : Int32 × RS := if r_isIn a.toInt64 0 4 = true then (if n = 8 then (-3, x) else (nI n, sS (sAs (sA x 1 n a) 7 (fmA (x.2.1 7) (40 * n) (-1) 40)) 0 (nI (n + 1)))) else (-1, x)
theorem sAs_0 (x : RS) (k o : Nat) (v : Int32) : sAs x k (fmA (x.2.1 k) o v 0) = x := by
  unfold sAs fmA
  have e : va_up x.2.1 k (x.2.1 k) = x.2.1 := by
    funext j
    by_cases h : j = k
    · subst h; simp [va_up]
    · simp [va_up, h]
  rw [e]
theorem sAs_fm (x y : RS) (k o t : Nat) (v : Int32) : sA (sAs x k (fmA (y.2.1 k) o v t)) k (o + t) v = sAs x k (fmA (y.2.1 k) o v (t + 1)) := by
  unfold sA sAs
  show (x.1, va_up (va_up x.2.1 k (fmA (y.2.1 k) o v t)) k (upd (va_up x.2.1 k (fmA (y.2.1 k) o v t) k) (o + t) v), x.2.2) = _
  rw [va_upup]
  have e : va_up x.2.1 k (fmA (y.2.1 k) o v t) k = fmA (y.2.1 k) o v t := by simp [va_up]
  rw [e]
  rfl
def r_op (x : RS) (n : Nat) (om : Nat → Nat) (a o : Int32) (v : Int64) : Int32 × RS := if r_isM n a = true then (if om a.toNatClampNeg = 40 then (-3, x) else (nI (om a.toNatClampNeg), sA (sA (sJ (sA x 3 (40 * a.toNatClampNeg + om a.toNatClampNeg) o) 4 (40 * a.toNatClampNeg + om a.toNatClampNeg) v) 2 a.toNatClampNeg (nI (om a.toNatClampNeg + 1))) 9 a.toNatClampNeg 0)) else (-1, x)
theorem v_X10_isMethod : mVm yX10_isMethod cX10_isMethod 2 (some .boolean) 1 := ⟨cd_X10_isMethod, im_X10_isMethod, se_X10_isMethod, ini_X10, by decide, by decide, by decide +kernel⟩
set_option maxHeartbeats 4000000 in
set_option maxRecDepth 100000 in
theorem k_X10_isMethod (Γ : mG) (l : Launch) (L : mI → Nat) (x : RS) (a : Int32) (n : Nat) (hn : x.1 0 = nI n) (h8 : n ≤ 8) : mMet Γ l yX10_isMethod cX10_isMethod 2 (some .boolean) { frames := 1, cells := 0, slots := 0, locals := 25 } [.ref (L (.inl 0)), .int a] L (rM Γ L x) (mQi Γ (fun r L1 M1 => r = bI (r_isM n a) ∧ L1 = L ∧ M1 = rM Γ L x)) := by
  refine m_start (by decide) (Nat.le_of_ble_eq_true rfl) ?_
  intro p e s m args below meth c A ls X hr hlk hnm hw hS hl
  have hx := X.1.1
  have hb := X.1.2.1
  have hl : lv_has ls 2 [(0, .ref (L (.inl 0))), (1, .int a)] := hl
  refine lv_iload_n hx hb dX10_isMethod_0 rfl (lv_at hl 1 rfl) ?_
  refine lv_i2l (v := a.toInt64) hx hb dX10_isMethod_1 rfl ?_
  refine lv_lconst (v := 0) hx hb dX10_isMethod_2 (by decide) ?_
  refine lv_aload_n hx hb dX10_isMethod_3 rfl (lv_at hl 0 rfl) ?_
  refine r_get0 X hw dX10_isMethod_4 ?_
  refine lv_iconst (v := 1) hx hb dX10_isMethod_7 (by decide) ?_
  refine lv_isub hx hb dX10_isMethod_8 ?_
  refine lv_i2l (v := ((x.1 0) - 1).toInt64) hx hb dX10_isMethod_9 rfl ?_
  refine m_calli (m_runS (As := [.long a.toInt64, .long 0, .long (((x.1 0) - 1).toInt64)]) (rest := []) X (k_X10_isIn Γ l L (rM Γ L x) a.toInt64 0 (((x.1 0) - 1).toInt64)) s_X10_isIn ml_X10_79 hw hS rfl hl.1 ⟨Nat.le_of_ble_eq_true rfl, Nat.le_of_ble_eq_true rfl⟩ (Nat.le_of_ble_eq_true rfl) ⟨Nat.le_of_ble_eq_true rfl, Nat.le_of_ble_eq_true rfl⟩ dX10_isMethod_10) hS (fun r_2 L1 M1 H locs hp_1 hw hS => ?_)
  obtain ⟨rfl, e1, e2⟩ := hp_1
  rw [e1, e2] at hw; clear e1 e2
  exact m_zret (b := r_isM n a) X hr hlk hw hS (Nat.zero_le _) (Nat.zero_le _) (by rw [hn, isM_eq h8]) ⟨rfl, rfl, rfl⟩ dX10_isMethod_13
theorem v_X10_kinds : mVm yX10_kinds cX10_kinds 4 (some .int) 3 := ⟨cd_X10_kinds, im_X10_kinds, se_X10_kinds, ini_X10, by decide, by decide, by decide +kernel⟩
set_option maxHeartbeats 4000000 in
set_option maxRecDepth 100000 in
theorem k_X10_kinds (Γ : mG) (l : Launch) (L : mI → Nat) (x : RS) (a : Int32) (b : Int32) (g : Int32)  : mMet Γ l yX10_kinds cX10_kinds 4 (some .int) { frames := 4, cells := 0, slots := 0, locals := 86 } [.ref (L (.inl 0)), .int a, .int b, .int g] L (rM Γ L x) (mQi Γ (fun r L1 M1 => r = r_kinds a b g ∧ L1 = L ∧ M1 = rM Γ L x)) := by
  refine m_start (by decide) (Nat.le_of_ble_eq_true rfl) ?_
  intro p e s m args below meth c A ls X hr hlk hnm hw hS hl
  have hx := X.1.1
  have hb := X.1.2.1
  have hl : lv_has ls 4 [(0, .ref (L (.inl 0))), (1, .int a), (2, .int b), (3, .int g)] := hl
  refine lv_iload_n hx hb dX10_kinds_0 rfl (lv_at hl 1 rfl) ?_
  refine m_calli (m_runS (As := [.int a]) (rest := []) X (k_X10_isKind Γ l L (rM Γ L x) a) s_X10_isKind ml_X10_119 hw hS rfl hl.1 ⟨Nat.le_of_ble_eq_true rfl, Nat.le_of_ble_eq_true rfl⟩ (Nat.le_of_ble_eq_true rfl) ⟨Nat.le_of_ble_eq_true rfl, Nat.le_of_ble_eq_true rfl⟩ dX10_kinds_1) hS (fun r_2 L1 M1 H locs hp_1 hw hS => ?_)
  obtain ⟨rfl, e1, e2⟩ := hp_1
  rw [e1, e2] at hw; clear e1 e2
  refine lv_if_eq (tgt := 14) hx hb dX10_kinds_4 (by decide) (fun c_3 => ?_) (fun c_3 => ?_)
  · skip
    have c_3 := bI_f c_3
    refine lv_iconst (v := (-1)) hx hb dX10_kinds_14 (by decide) ?_
    exact m_iret X hr hlk hw hS (Nat.zero_le _) (Nat.zero_le _) ⟨by clear hb hx hl hS hw hnm hlk hr X; first | rfl | (simp_all [bI, r_kinds]; done) | (simp_all [bI, r_kinds]; rfl), rfl, rfl⟩ dX10_kinds_15
  · skip
    have c_3 := bI_t c_3
    refine lv_iload_n hx hb dX10_kinds_7 rfl (lv_at hl 2 rfl) ?_
    refine m_calli (m_runS (As := [.int b]) (rest := []) X (k_X10_isKind Γ l L (rM Γ L x) b) s_X10_isKind ml_X10_119 hw hS rfl hl.1 ⟨Nat.le_of_ble_eq_true rfl, Nat.le_of_ble_eq_true rfl⟩ (Nat.le_of_ble_eq_true rfl) ⟨Nat.le_of_ble_eq_true rfl, Nat.le_of_ble_eq_true rfl⟩ dX10_kinds_8) hS (fun r_6 L1 M1 H locs hp_5 hw hS => ?_)
    obtain ⟨rfl, e1, e2⟩ := hp_5
    rw [e1, e2] at hw; clear e1 e2
    refine lv_if_ne (tgt := 16) hx hb dX10_kinds_11 (by decide) (fun c_7 => ?_) (fun c_7 => ?_)
    · skip
      have c_7 := bI_t c_7
      refine lv_iload_n hx hb dX10_kinds_16 rfl (lv_at hl 3 rfl) ?_
      refine lv_if_ne (tgt := 28) hx hb dX10_kinds_17 (by decide) (fun c_9 => ?_) (fun c_9 => ?_)
      · skip
        refine lv_iload_n hx hb dX10_kinds_28 rfl (lv_at hl 1 rfl) ?_
        refine lv_iload_n hx hb dX10_kinds_29 rfl (lv_at hl 2 rfl) ?_
        refine m_calli (m_runS (As := [.int a, .int b]) (rest := []) X (k_X10_goes Γ l L (rM Γ L x) a b) s_X10_goes ml_X10_125 hw hS rfl hl.1 ⟨Nat.le_of_ble_eq_true rfl, Nat.le_of_ble_eq_true rfl⟩ (Nat.le_of_ble_eq_true rfl) ⟨Nat.le_of_ble_eq_true rfl, Nat.le_of_ble_eq_true rfl⟩ dX10_kinds_30) hS (fun r_12 L1 M1 H locs hp_11 hw hS => ?_)
        obtain ⟨rfl, e1, e2⟩ := hp_11
        rw [e1, e2] at hw; clear e1 e2
        refine lv_if_eq (tgt := 40) hx hb dX10_kinds_33 (by decide) (fun c_13 => ?_) (fun c_13 => ?_)
        · skip
          have c_13 := bI_f c_13
          refine lv_iconst (v := 0) hx hb dX10_kinds_40 (by decide) ?_
          exact m_iret X hr hlk hw hS (Nat.zero_le _) (Nat.zero_le _) ⟨by clear hb hx hl hS hw hnm hlk hr X; first | rfl | (simp_all [bI, r_kinds]; done) | (simp_all [bI, r_kinds]; rfl), rfl, rfl⟩ dX10_kinds_41
        · skip
          have c_13 := bI_t c_13
          refine lv_iconst (v := 1) hx hb dX10_kinds_36 (by decide) ?_
          refine lv_goto (tgt := 41) hx hb dX10_kinds_37 (by decide) ?_
          exact m_iret X hr hlk hw hS (Nat.zero_le _) (Nat.zero_le _) ⟨by clear hb hx hl hS hw hnm hlk hr X; first | rfl | (simp_all [bI, r_kinds]; done) | (simp_all [bI, r_kinds]; rfl), rfl, rfl⟩ dX10_kinds_41
      · skip
        refine lv_iload_n hx hb dX10_kinds_20 rfl (lv_at hl 1 rfl) ?_
        refine lv_iload_n hx hb dX10_kinds_21 rfl (lv_at hl 2 rfl) ?_
        refine m_calli (m_runS (As := [.int a, .int b]) (rest := []) X (k_X10_joined Γ l L (rM Γ L x) a b) s_X10_joined ml_X10_122 hw hS rfl hl.1 ⟨Nat.le_of_ble_eq_true rfl, Nat.le_of_ble_eq_true rfl⟩ (Nat.le_of_ble_eq_true rfl) ⟨Nat.le_of_ble_eq_true rfl, Nat.le_of_ble_eq_true rfl⟩ dX10_kinds_22) hS (fun r_16 L1 M1 H locs hp_15 hw hS => ?_)
        obtain ⟨rfl, e1, e2⟩ := hp_15
        rw [e1, e2] at hw; clear e1 e2
        refine lv_goto (tgt := 41) hx hb dX10_kinds_25 (by decide) ?_
        exact m_iret X hr hlk hw hS (Nat.zero_le _) (Nat.zero_le _) ⟨by clear hb hx hl hS hw hnm hlk hr X; first | rfl | (simp_all [bI, r_kinds]; done) | (simp_all [bI, r_kinds]; rfl), rfl, rfl⟩ dX10_kinds_41
    · skip
      have c_7 := bI_f c_7
      refine lv_iconst (v := (-1)) hx hb dX10_kinds_14 (by decide) ?_
      exact m_iret X hr hlk hw hS (Nat.zero_le _) (Nat.zero_le _) ⟨by clear hb hx hl hS hw hnm hlk hr X; first | rfl | (simp_all [bI, r_kinds]; done) | (simp_all [bI, r_kinds]; rfl), rfl, rfl⟩ dX10_kinds_15
theorem v_X10_changed : mVm yX10_changed cX10_changed 2 none 1 := ⟨cd_X10_changed, im_X10_changed, se_X10_changed, ini_X10, by decide, by decide, by decide +kernel⟩
set_option maxHeartbeats 4000000 in
set_option maxRecDepth 100000 in
theorem k_X10_changed (Γ : mG) (l : Launch) (L : mI → Nat) (x : RS) (a : Int32) (k : Nat) (hk : a = nI k) (h8 : k < 8) : mMet Γ l yX10_changed cX10_changed 2 none { frames := 0, cells := 0, slots := 0, locals := 0 } [.ref (L (.inl 0)), .int a] L (rM Γ L x) (mQv Γ (fun L1 M1 => L1 = L ∧ M1 = rM Γ L (sA x 9 k 0))) := by
  refine m_start (by decide) (Nat.le_of_ble_eq_true rfl) ?_
  intro p e s m args below meth c A ls X hr hlk hnm hw hS hl
  have hx := X.1.1
  have hb := X.1.2.1
  have hl : lv_has ls 2 [(0, .ref (L (.inl 0))), (1, .int a)] := hl
  refine lv_aload_n hx hb dX10_changed_0 rfl (lv_at hl 0 rfl) ?_
  refine r_get9 X hw dX10_changed_1 ?_
  refine lv_iload_n hx hb dX10_changed_4 rfl (lv_at hl 1 rfl) ?_
  refine lv_iconst (v := 0) hx hb dX10_changed_5 (by decide) ?_
  refine r_ast9N X hw hS hk (by omega) dX10_changed_6 (fun H locs hw hS => ?_)
  exact m_vret X hr hlk hw hS (Nat.zero_le _) (Nat.zero_le _) ⟨rfl, by clear hb hx hl hS hw hnm hlk hr X; first | rfl | (simp_all [bI, sA]; done) | (simp_all [bI, sA]; rfl)⟩ dX10_changed_7
theorem v_X10_told : mVm yX10_told cX10_told 2 (some .int) 1 := ⟨cd_X10_told, im_X10_told, se_X10_told, ini_X10, by decide, by decide, by decide +kernel⟩
set_option maxHeartbeats 4000000 in
set_option maxRecDepth 100000 in
theorem k_X10_told (Γ : mG) (l : Launch) (L : mI → Nat) (x : RS) (a : Int32)  : mMet Γ l yX10_told cX10_told 2 (some .int) { frames := 0, cells := 0, slots := 0, locals := 0 } [.ref (L (.inl 0)), .int a] L (rM Γ L x) (mQi Γ (fun r L1 M1 => r = r_told x a ∧ L1 = L ∧ M1 = rM Γ L x)) := by
  refine m_start (by decide) (Nat.le_of_ble_eq_true rfl) ?_
  intro p e s m args below meth c A ls X hr hlk hnm hw hS hl
  have hx := X.1.1
  have hb := X.1.2.1
  have hl : lv_has ls 2 [(0, .ref (L (.inl 0))), (1, .int a)] := hl
  refine lv_iload_n hx hb dX10_told_0 rfl (lv_at hl 1 rfl) ?_
  by_cases c_1 : a.toInt < 0 ∨ 4 < a.toInt
  · refine lv_tableOut (tgt := 85) hx hb dX10_told_1 c_1 (by decide) ?_
    refine lv_iconst (v := (-1)) hx hb dX10_told_85 (by decide) ?_
    exact m_iret X hr hlk hw hS (Nat.zero_le _) (Nat.zero_le _) ⟨by clear hb hx hl hS hw hnm hlk hr X; first | exact (r_told_out (by assumption)).symm | rfl | (simp_all [bI, r_told]; done) | (simp_all [bI, r_told]; rfl), rfl, rfl⟩ dX10_told_86
  · have c_1b : a.toInt = 0 ∨ a.toInt = 1 ∨ a.toInt = 2 ∨ a.toInt = 3 ∨ a.toInt = 4 := by omega
    rcases c_1b with c_1v | c_1v | c_1v | c_1v | c_1v
    · have c_1e : a = 0 := Int32.toInt_inj.mp c_1v
      refine lv_tableIn (off := 35) (tgt := 36) hx hb dX10_told_1 (by omega) (by omega) (by rw [c_1v]; rfl) (by decide) ?_
      refine lv_aload_n hx hb dX10_told_36 rfl (lv_at hl 0 rfl) ?_
      refine r_get29 X hw dX10_told_37 ?_
      exact m_iret X hr hlk hw hS (Nat.zero_le _) (Nat.zero_le _) ⟨by clear hb hx hl hS hw hnm hlk hr X; first | exact (r_told_out (by assumption)).symm | rfl | (simp_all [bI, r_told]; done) | (simp_all [bI, r_told]; rfl), rfl, rfl⟩ dX10_told_40
    · have c_1e : a = 1 := Int32.toInt_inj.mp c_1v
      refine lv_tableIn (off := 40) (tgt := 41) hx hb dX10_told_1 (by omega) (by omega) (by rw [c_1v]; rfl) (by decide) ?_
      refine lv_aload_n hx hb dX10_told_41 rfl (lv_at hl 0 rfl) ?_
      refine r_get30 X hw dX10_told_42 ?_
      exact m_iret X hr hlk hw hS (Nat.zero_le _) (Nat.zero_le _) ⟨by clear hb hx hl hS hw hnm hlk hr X; first | exact (r_told_out (by assumption)).symm | rfl | (simp_all [bI, r_told]; done) | (simp_all [bI, r_told]; rfl), rfl, rfl⟩ dX10_told_45
    · have c_1e : a = 2 := Int32.toInt_inj.mp c_1v
      refine lv_tableIn (off := 45) (tgt := 46) hx hb dX10_told_1 (by omega) (by omega) (by rw [c_1v]; rfl) (by decide) ?_
      refine lv_aload_n hx hb dX10_told_46 rfl (lv_at hl 0 rfl) ?_
      refine r_get23 X hw dX10_told_47 ?_
      exact m_iret X hr hlk hw hS (Nat.zero_le _) (Nat.zero_le _) ⟨by clear hb hx hl hS hw hnm hlk hr X; first | exact (r_told_out (by assumption)).symm | rfl | (simp_all [bI, r_told]; done) | (simp_all [bI, r_told]; rfl), rfl, rfl⟩ dX10_told_50
    · have c_1e : a = 3 := Int32.toInt_inj.mp c_1v
      refine lv_tableIn (off := 50) (tgt := 51) hx hb dX10_told_1 (by omega) (by omega) (by rw [c_1v]; rfl) (by decide) ?_
      refine lv_aload_n hx hb dX10_told_51 rfl (lv_at hl 0 rfl) ?_
      refine r_get33 X hw dX10_told_52 ?_
      refine lv_if_eq (tgt := 65) hx hb dX10_told_55 (by decide) (fun c_2 => ?_) (fun c_2 => ?_)
      · skip
        refine lv_ldc (v := (-99999999)) hx hb X.1.2.2.2.1 (X.1.2.2.2.2 _ ki_X10_234) dX10_told_65 ?_
        exact m_iret X hr hlk hw hS (Nat.zero_le _) (Nat.zero_le _) ⟨by clear hb hx hl hS hw hnm hlk hr X; first | exact (r_told_out (by assumption)).symm | rfl | (simp_all [bI, r_told]; done) | (simp_all [bI, r_told]; rfl), rfl, rfl⟩ dX10_told_67
      · skip
        refine lv_aload_n hx hb dX10_told_58 rfl (lv_at hl 0 rfl) ?_
        refine r_get31 X hw dX10_told_59 ?_
        refine lv_goto (tgt := 67) hx hb dX10_told_62 (by decide) ?_
        exact m_iret X hr hlk hw hS (Nat.zero_le _) (Nat.zero_le _) ⟨by clear hb hx hl hS hw hnm hlk hr X; first | exact (r_told_out (by assumption)).symm | rfl | (simp_all [bI, r_told]; done) | (simp_all [bI, r_told]; rfl), rfl, rfl⟩ dX10_told_67
    · have c_1e : a = 4 := Int32.toInt_inj.mp c_1v
      refine lv_tableIn (off := 67) (tgt := 68) hx hb dX10_told_1 (by omega) (by omega) (by rw [c_1v]; rfl) (by decide) ?_
      refine lv_aload_n hx hb dX10_told_68 rfl (lv_at hl 0 rfl) ?_
      refine r_get33 X hw dX10_told_69 ?_
      refine lv_if_eq (tgt := 82) hx hb dX10_told_72 (by decide) (fun c_4 => ?_) (fun c_4 => ?_)
      · skip
        refine lv_ldc (v := (-99999999)) hx hb X.1.2.2.2.1 (X.1.2.2.2.2 _ ki_X10_234) dX10_told_82 ?_
        exact m_iret X hr hlk hw hS (Nat.zero_le _) (Nat.zero_le _) ⟨by clear hb hx hl hS hw hnm hlk hr X; first | exact (r_told_out (by assumption)).symm | rfl | (simp_all [bI, r_told]; done) | (simp_all [bI, r_told]; rfl), rfl, rfl⟩ dX10_told_84
      · skip
        refine lv_aload_n hx hb dX10_told_75 rfl (lv_at hl 0 rfl) ?_
        refine r_get32 X hw dX10_told_76 ?_
        refine lv_goto (tgt := 84) hx hb dX10_told_79 (by decide) ?_
        exact m_iret X hr hlk hw hS (Nat.zero_le _) (Nat.zero_le _) ⟨by clear hb hx hl hS hw hnm hlk hr X; first | exact (r_told_out (by assumption)).symm | rfl | (simp_all [bI, r_told]; done) | (simp_all [bI, r_told]; rfl), rfl, rfl⟩ dX10_told_84
theorem v_X10_count : mVm yX10_count cX10_count 3 (some .int) 2 := ⟨cd_X10_count, im_X10_count, se_X10_count, ini_X10, by decide, by decide, by decide +kernel⟩
set_option maxHeartbeats 4000000 in
set_option maxRecDepth 100000 in
theorem k_X10_count (Γ : mG) (l : Launch) (L : mI → Nat) (x : RS) (a : Int32) (b : Int32) (n : Nat) (hn : x.1 0 = nI n) (h8 : n ≤ 8) : mMet Γ l yX10_count cX10_count 3 (some .int) { frames := 2, cells := 0, slots := 0, locals := 46 } [.ref (L (.inl 0)), .int a, .int b] L (rM Γ L x) (mQi Γ (fun r L1 M1 => r = r_count x n a b ∧ L1 = L ∧ M1 = rM Γ L x)) := by
  refine m_start (by decide) (Nat.le_of_ble_eq_true rfl) ?_
  intro p e s m args below meth c A ls X hr hlk hnm hw hS hl
  have hx := X.1.1
  have hb := X.1.2.1
  have hl : lv_has ls 3 [(0, .ref (L (.inl 0))), (1, .int a), (2, .int b)] := hl
  refine lv_iload_n hx hb dX10_count_0 rfl (lv_at hl 1 rfl) ?_
  refine lv_if_ne (tgt := 9) hx hb dX10_count_1 (by decide) (fun c_1 => ?_) (fun c_1 => ?_)
  · skip
    refine lv_iload_n hx hb dX10_count_9 rfl (lv_at hl 1 rfl) ?_
    refine lv_i2l (v := a.toInt64) hx hb dX10_count_10 rfl ?_
    refine lv_lconst (v := 1) hx hb dX10_count_11 (by decide) ?_
    refine lv_ldc2 (v := (3)) hx hb X.1.2.2.2.1 (X.1.2.2.2.2 _ kl_X10_278) dX10_count_12 ?_
    refine m_calli (m_runS (As := [.long a.toInt64, .long 1, .long (3)]) (rest := []) X (k_X10_isIn Γ l L (rM Γ L x) a.toInt64 1 (3)) s_X10_isIn ml_X10_79 hw hS rfl hl.1 ⟨Nat.le_of_ble_eq_true rfl, Nat.le_of_ble_eq_true rfl⟩ (Nat.le_of_ble_eq_true rfl) ⟨Nat.le_of_ble_eq_true rfl, Nat.le_of_ble_eq_true rfl⟩ dX10_count_15) hS (fun r_4 L1 M1 H locs hp_3 hw hS => ?_)
    obtain ⟨rfl, e1, e2⟩ := hp_3
    rw [e1, e2] at hw; clear e1 e2
    refine lv_if_eq (tgt := 29) hx hb dX10_count_18 (by decide) (fun c_5 => ?_) (fun c_5 => ?_)
    · skip
      have c_5 := bI_f c_5
      refine lv_iconst (v := (-1)) hx hb dX10_count_29 (by decide) ?_
      exact m_iret X hr hlk hw hS (Nat.zero_le _) (Nat.zero_le _) ⟨by clear hb hx hl hS hw hnm hlk hr X; first | rfl | (simp_all [bI, r_count]; done) | (simp_all [bI, r_count]; rfl), rfl, rfl⟩ dX10_count_30
    · skip
      have c_5 := bI_t c_5
      refine lv_aload_n hx hb dX10_count_21 rfl (lv_at hl 0 rfl) ?_
      refine lv_iload_n hx hb dX10_count_22 rfl (lv_at hl 2 rfl) ?_
      refine m_calli (m_runV (i := .inl 0) (ci := 8) (As := [.int b]) (rest := []) X (k_X10_isMethod Γ l L x b n hn h8) v_X10_isMethod ml_X10_130 hw hS rfl rfl rfl rfl hl.1 ⟨Nat.le_of_ble_eq_true rfl, Nat.le_of_ble_eq_true rfl⟩ (Nat.le_of_ble_eq_true rfl) ⟨Nat.le_of_ble_eq_true rfl, Nat.le_of_ble_eq_true rfl⟩ dX10_count_23) hS (fun r_8 L1 M1 H locs hp_7 hw hS => ?_)
      obtain ⟨rfl, e1, e2⟩ := hp_7
      rw [e1, e2] at hw; clear e1 e2
      refine lv_if_ne (tgt := 31) hx hb dX10_count_26 (by decide) (fun c_9 => ?_) (fun c_9 => ?_)
      · skip
        have c_9 := bI_t c_9
        have c_90 := c_9
        obtain ⟨k_10, hk_k_10, rfl⟩ := isM_nat c_90
        have hc_k_10 : (nI k_10).toNatClampNeg = k_10 := nI_clamp (by omega)
        refine lv_iload_n hx hb dX10_count_31 rfl (lv_at hl 1 rfl) ?_
        refine lv_iconst (v := 1) hx hb dX10_count_32 (by decide) ?_
        refine lv_icmp_ne (tgt := 45) hx hb dX10_count_33 (by decide) (fun c_11 => ?_) (fun c_11 => ?_)
        · skip
          refine lv_iload_n hx hb dX10_count_45 rfl (lv_at hl 1 rfl) ?_
          refine lv_iconst (v := 2) hx hb dX10_count_46 (by decide) ?_
          refine lv_icmp_ne (tgt := 59) hx hb dX10_count_47 (by decide) (fun c_12 => ?_) (fun c_12 => ?_)
          · skip
            refine lv_aload_n hx hb dX10_count_59 rfl (lv_at hl 0 rfl) ?_
            refine r_get9 X hw dX10_count_60 ?_
            refine lv_iload_n hx hb dX10_count_63 rfl (lv_at hl 2 rfl) ?_
            refine r_ald9N X hw rfl (by omega) dX10_count_64 ?_
            refine lv_if_eq (tgt := 72) hx hb dX10_count_65 (by decide) (fun c_13 => ?_) (fun c_13 => ?_)
            · skip
              refine lv_iconst (v := 0) hx hb dX10_count_72 (by decide) ?_
              exact m_iret X hr hlk hw hS (Nat.zero_le _) (Nat.zero_le _) ⟨by clear hb hx hl hS hw hnm hlk hr X; first | rfl | (simp_all [bI, r_count]; done) | (simp_all [bI, r_count]; rfl), rfl, rfl⟩ dX10_count_73
            · skip
              refine lv_iconst (v := 1) hx hb dX10_count_68 (by decide) ?_
              refine lv_goto (tgt := 73) hx hb dX10_count_69 (by decide) ?_
              exact m_iret X hr hlk hw hS (Nat.zero_le _) (Nat.zero_le _) ⟨by clear hb hx hl hS hw hnm hlk hr X; first | rfl | (simp_all [bI, r_count]; done) | (simp_all [bI, r_count]; rfl), rfl, rfl⟩ dX10_count_73
          · skip
            refine lv_aload_n hx hb dX10_count_50 rfl (lv_at hl 0 rfl) ?_
            refine r_get5 X hw dX10_count_51 ?_
            refine lv_iload_n hx hb dX10_count_54 rfl (lv_at hl 2 rfl) ?_
            refine r_ald5N X hw rfl (by omega) dX10_count_55 ?_
            refine lv_goto (tgt := 73) hx hb dX10_count_56 (by decide) ?_
            exact m_iret X hr hlk hw hS (Nat.zero_le _) (Nat.zero_le _) ⟨by clear hb hx hl hS hw hnm hlk hr X; first | rfl | (simp_all [bI, r_count]; done) | (simp_all [bI, r_count]; rfl), rfl, rfl⟩ dX10_count_73
        · skip
          refine lv_aload_n hx hb dX10_count_36 rfl (lv_at hl 0 rfl) ?_
          refine r_get2 X hw dX10_count_37 ?_
          refine lv_iload_n hx hb dX10_count_40 rfl (lv_at hl 2 rfl) ?_
          refine r_ald2N X hw rfl (by omega) dX10_count_41 ?_
          refine lv_goto (tgt := 73) hx hb dX10_count_42 (by decide) ?_
          exact m_iret X hr hlk hw hS (Nat.zero_le _) (Nat.zero_le _) ⟨by clear hb hx hl hS hw hnm hlk hr X; first | rfl | (simp_all [bI, r_count]; done) | (simp_all [bI, r_count]; rfl), rfl, rfl⟩ dX10_count_73
      · skip
        have c_9 := bI_f c_9
        refine lv_iconst (v := (-1)) hx hb dX10_count_29 (by decide) ?_
        exact m_iret X hr hlk hw hS (Nat.zero_le _) (Nat.zero_le _) ⟨by clear hb hx hl hS hw hnm hlk hr X; first | rfl | (simp_all [bI, r_count]; done) | (simp_all [bI, r_count]; rfl), rfl, rfl⟩ dX10_count_30
  · skip
    refine lv_aload_n hx hb dX10_count_4 rfl (lv_at hl 0 rfl) ?_
    refine r_get0 X hw dX10_count_5 ?_
    exact m_iret X hr hlk hw hS (Nat.zero_le _) (Nat.zero_le _) ⟨by clear hb hx hl hS hw hnm hlk hr X; first | rfl | (simp_all [bI, r_count]; done) | (simp_all [bI, r_count]; rfl), rfl, rfl⟩ dX10_count_8
theorem v_X10_rounds : mVm yX10_rounds cX10_rounds 1 (some .int) 0 := ⟨cd_X10_rounds, im_X10_rounds, se_X10_rounds, ini_X10, by decide, by decide, by decide +kernel⟩
set_option maxHeartbeats 4000000 in
set_option maxRecDepth 100000 in
theorem k_X10_rounds (Γ : mG) (l : Launch) (L : mI → Nat) (x : RS)   : mMet Γ l yX10_rounds cX10_rounds 1 (some .int) { frames := 0, cells := 0, slots := 0, locals := 0 } [.ref (L (.inl 0))] L (rM Γ L x) (mQi Γ (fun r L1 M1 => r = x.1 13 ∧ L1 = L ∧ M1 = rM Γ L x)) := by
  refine m_start (by decide) (Nat.le_of_ble_eq_true rfl) ?_
  intro p e s m args below meth c A ls X hr hlk hnm hw hS hl
  have hx := X.1.1
  have hb := X.1.2.1
  have hl : lv_has ls 1 [(0, .ref (L (.inl 0)))] := hl
  refine lv_aload_n hx hb dX10_rounds_0 rfl (lv_at hl 0 rfl) ?_
  refine r_get13 X hw dX10_rounds_1 ?_
  exact m_iret X hr hlk hw hS (Nat.zero_le _) (Nat.zero_le _) ⟨by clear hb hx hl hS hw hnm hlk hr X; first | rfl | (simp_all [bI, sS]; done) | (simp_all [bI, sS]; rfl), rfl, rfl⟩ dX10_rounds_4
theorem v_X10_answer : mVm yX10_answer cX10_answer 1 (some .int) 0 := ⟨cd_X10_answer, im_X10_answer, se_X10_answer, ini_X10, by decide, by decide, by decide +kernel⟩
set_option maxHeartbeats 4000000 in
set_option maxRecDepth 100000 in
theorem k_X10_answer (Γ : mG) (l : Launch) (L : mI → Nat) (x : RS)   : mMet Γ l yX10_answer cX10_answer 1 (some .int) { frames := 0, cells := 0, slots := 0, locals := 0 } [.ref (L (.inl 0))] L (rM Γ L x) (mQi Γ (fun r L1 M1 => r = x.1 28 ∧ L1 = L ∧ M1 = rM Γ L x)) := by
  refine m_start (by decide) (Nat.le_of_ble_eq_true rfl) ?_
  intro p e s m args below meth c A ls X hr hlk hnm hw hS hl
  have hx := X.1.1
  have hb := X.1.2.1
  have hl : lv_has ls 1 [(0, .ref (L (.inl 0)))] := hl
  refine lv_aload_n hx hb dX10_answer_0 rfl (lv_at hl 0 rfl) ?_
  refine r_get28 X hw dX10_answer_1 ?_
  exact m_iret X hr hlk hw hS (Nat.zero_le _) (Nat.zero_le _) ⟨by clear hb hx hl hS hw hnm hlk hr X; first | rfl | (simp_all [bI, sS]; done) | (simp_all [bI, sS]; rfl), rfl, rfl⟩ dX10_answer_4
theorem v_X10_method : mVm yX10_method cX10_method 3 (some .int) 1 := ⟨cd_X10_method, im_X10_method, se_X10_method, ini_X10, by decide, by decide, by decide +kernel⟩
set_option maxHeartbeats 4000000 in
set_option maxRecDepth 100000 in
theorem k_X10_method (Γ : mG) (l : Launch) (L : mI → Nat) (x : RS) (a : Int32) (n : Nat) (hn : x.1 0 = nI n) (h8 : n ≤ 8) : mMet Γ l yX10_method cX10_method 3 (some .int) { frames := 1, cells := 0, slots := 0, locals := 25 } [.ref (L (.inl 0)), .int a] L (rM Γ L x) (mQi Γ (fun r L1 M1 => r = (r_method x n a).1 ∧ L1 = L ∧ M1 = rM Γ L (r_method x n a).2)) := by
  refine m_start (by decide) (Nat.le_of_ble_eq_true rfl) ?_
  intro p e s m args below meth c A ls X hr hlk hnm hw hS hl
  have hx := X.1.1
  have hb := X.1.2.1
  have hl : lv_has ls 3 [(0, .ref (L (.inl 0))), (1, .int a)] := hl
  have KL : ∀ (u t : Nat) (j : Int32) (H : Heap) (locs : List Loc) (ls : Array Slot), t + u = 40 → j = nI t → r_isIn a.toInt64 0 4 = true → ¬ n = 8 → mW Γ.1 vwCl A L (rM Γ L (sAs (sA x 1 n a) 7 (fmA (x.2.1 7) (40 * n) (-1) t))) H → va_S A s.heap H locs → lv_has ls 3 [(2, .int j), (0, .ref (L (.inl 0))), (1, .int a)] → W p l e { frames := 1, cells := 0, slots := 0, locals := 25 } s m args below meth c H locs 0 0 (MQ below (mQi Γ (fun r L1 M1 => r = (r_method x n a).1 ∧ L1 = L ∧ M1 = rM Γ L (r_method x n a).2) A) args s 0 0 A) (F0 m 38 ls []) := by
    intro u
    induction u with
    | zero =>
      intro t j H locs ls ht hj hin h8n hw hS hl
      refine lv_iload_n hx hb dX10_method_38 rfl (lv_at hl 0 rfl) ?_
      refine lv_bipush (v := 40) hx hb dX10_method_39 (by decide) ?_
      refine lv_icmp_ge (tgt := 65) hx hb dX10_method_41 (by decide) (fun c_1 => ?_) (fun c_1 => ?_)
      · skip
        have c_1n : t ≥ 40 := ngeT (a := t) (b := 40) hj rfl (by omega) (by omega) c_1
        have c_1m : ¬ t < 40 := by omega
        refine lv_aload_n hx hb dX10_method_65 rfl (lv_at hl 1 rfl) ?_
        refine lv_dup hx hb dX10_method_66 rfl ?_
        refine r_get0 X hw dX10_method_67 ?_
        refine lv_iconst (v := 1) hx hb dX10_method_70 (by decide) ?_
        refine lv_iadd hx hb dX10_method_71 ?_
        refine lv_topi (fun v_2 ev_2 => ?_)
        obtain rfl : v_2 = nI (n + 1) := ev_2.trans (nadd (a := n) (b := 1) hn rfl)
        refine r_put0 X hw hS dX10_method_72 (fun H locs hw hS => ?_)
        refine lv_aload_n hx hb dX10_method_75 rfl (lv_at hl 1 rfl) ?_
        refine r_get0 X hw dX10_method_76 ?_
        refine lv_iconst (v := 1) hx hb dX10_method_79 (by decide) ?_
        refine lv_isub hx hb dX10_method_80 ?_
        refine lv_topi (fun v_3 ev_3 => ?_)
        obtain rfl : v_3 = nI ((n + 1) - 1) := ev_3.trans (nsub (a := n + 1) (b := 1) (by omega) rfl rfl)
        exact m_iret X hr hlk hw hS (Nat.zero_le _) (Nat.zero_le _) ⟨by clear hb hx hl hS hw hnm hlk hr X; first | exact absurd ht (by omega) | (have ht40 : t = 40 := by omega; subst ht40; simp only [r_method, if_pos hin, if_neg h8n]; rfl) | (simp only [r_method, if_pos ‹r_isIn a.toInt64 0 4 = true›, if_neg ‹¬ n = 8›]; first | rfl | (show nI n + 1 - 1 = nI n; rw [show (1 : Int32) = nI 1 from rfl, nI_add, pk_sub (by omega)]; rfl) | (have ht40 : t = 40 := by omega; subst ht40; rfl)) | rfl | (simp_all [bI, r_method]; done) | (simp_all [bI, r_method]; rfl), rfl, by clear hb hx hl hS hw hnm hlk hr X; first | exact absurd ht (by omega) | (have ht40 : t = 40 := by omega; subst ht40; simp only [r_method, if_pos hin, if_neg h8n]; rfl) | (simp only [r_method, if_pos ‹r_isIn a.toInt64 0 4 = true›, if_neg ‹¬ n = 8›]; first | rfl | (show nI n + 1 - 1 = nI n; rw [show (1 : Int32) = nI 1 from rfl, nI_add, pk_sub (by omega)]; rfl) | (have ht40 : t = 40 := by omega; subst ht40; rfl)) | rfl | (simp_all [bI, r_method]; done) | (simp_all [bI, r_method]; rfl)⟩ dX10_method_81
      · skip
        have c_1n : ¬ t ≥ 40 := ngeF (a := t) (b := 40) hj rfl (by omega) (by omega) c_1
        have c_1m : t < 40 := by omega
        refine lv_aload_n hx hb dX10_method_44 rfl (lv_at hl 1 rfl) ?_
        refine r_get7 X hw dX10_method_45 ?_
        refine lv_bipush (v := 40) hx hb dX10_method_48 (by decide) ?_
        refine lv_aload_n hx hb dX10_method_50 rfl (lv_at hl 1 rfl) ?_
        refine r_get0 X hw dX10_method_51 ?_
        refine lv_imul hx hb dX10_method_54 ?_
        refine lv_iload_n hx hb dX10_method_55 rfl (lv_at hl 0 rfl) ?_
        refine lv_iadd hx hb dX10_method_56 ?_
        refine lv_iconst (v := (-1)) hx hb dX10_method_57 (by decide) ?_
        refine r_ast7N X hw hS (nadd (a := 40 * n) (b := t) (nmul (a := 40) (b := n) rfl hn) hj) (by omega) dX10_method_58 (fun H locs hw hS => ?_)
        refine lv_iinc (v := j + 1) (lv' := [(2, .int (j + 1)), (0, .ref (L (.inl 0))), (1, .int a)]) hx hb dX10_method_59 hl (k := 0) rfl rfl (by decide) rfl (fun ls hl => ?_)
        refine lv_goto (tgt := 38) hx hb dX10_method_62 (by decide) ?_
        exact absurd ht (by omega)
    | succ u ih =>
      intro t j H locs ls ht hj hin h8n hw hS hl
      refine lv_iload_n hx hb dX10_method_38 rfl (lv_at hl 0 rfl) ?_
      refine lv_bipush (v := 40) hx hb dX10_method_39 (by decide) ?_
      refine lv_icmp_ge (tgt := 65) hx hb dX10_method_41 (by decide) (fun c_4 => ?_) (fun c_4 => ?_)
      · skip
        have c_4n : t ≥ 40 := ngeT (a := t) (b := 40) hj rfl (by omega) (by omega) c_4
        have c_4m : ¬ t < 40 := by omega
        refine lv_aload_n hx hb dX10_method_65 rfl (lv_at hl 1 rfl) ?_
        refine lv_dup hx hb dX10_method_66 rfl ?_
        refine r_get0 X hw dX10_method_67 ?_
        refine lv_iconst (v := 1) hx hb dX10_method_70 (by decide) ?_
        refine lv_iadd hx hb dX10_method_71 ?_
        refine lv_topi (fun v_5 ev_5 => ?_)
        obtain rfl : v_5 = nI (n + 1) := ev_5.trans (nadd (a := n) (b := 1) hn rfl)
        refine r_put0 X hw hS dX10_method_72 (fun H locs hw hS => ?_)
        refine lv_aload_n hx hb dX10_method_75 rfl (lv_at hl 1 rfl) ?_
        refine r_get0 X hw dX10_method_76 ?_
        refine lv_iconst (v := 1) hx hb dX10_method_79 (by decide) ?_
        refine lv_isub hx hb dX10_method_80 ?_
        refine lv_topi (fun v_6 ev_6 => ?_)
        obtain rfl : v_6 = nI ((n + 1) - 1) := ev_6.trans (nsub (a := n + 1) (b := 1) (by omega) rfl rfl)
        exact m_iret X hr hlk hw hS (Nat.zero_le _) (Nat.zero_le _) ⟨by clear hb hx hl hS hw hnm hlk hr X; first | exact absurd ht (by omega) | (have ht40 : t = 40 := by omega; subst ht40; simp only [r_method, if_pos hin, if_neg h8n]; rfl) | (simp only [r_method, if_pos ‹r_isIn a.toInt64 0 4 = true›, if_neg ‹¬ n = 8›]; first | rfl | (show nI n + 1 - 1 = nI n; rw [show (1 : Int32) = nI 1 from rfl, nI_add, pk_sub (by omega)]; rfl) | (have ht40 : t = 40 := by omega; subst ht40; rfl)) | rfl | (simp_all [bI, r_method]; done) | (simp_all [bI, r_method]; rfl), rfl, by clear hb hx hl hS hw hnm hlk hr X; first | exact absurd ht (by omega) | (have ht40 : t = 40 := by omega; subst ht40; simp only [r_method, if_pos hin, if_neg h8n]; rfl) | (simp only [r_method, if_pos ‹r_isIn a.toInt64 0 4 = true›, if_neg ‹¬ n = 8›]; first | rfl | (show nI n + 1 - 1 = nI n; rw [show (1 : Int32) = nI 1 from rfl, nI_add, pk_sub (by omega)]; rfl) | (have ht40 : t = 40 := by omega; subst ht40; rfl)) | rfl | (simp_all [bI, r_method]; done) | (simp_all [bI, r_method]; rfl)⟩ dX10_method_81
      · skip
        have c_4n : ¬ t ≥ 40 := ngeF (a := t) (b := 40) hj rfl (by omega) (by omega) c_4
        have c_4m : t < 40 := by omega
        refine lv_aload_n hx hb dX10_method_44 rfl (lv_at hl 1 rfl) ?_
        refine r_get7 X hw dX10_method_45 ?_
        refine lv_bipush (v := 40) hx hb dX10_method_48 (by decide) ?_
        refine lv_aload_n hx hb dX10_method_50 rfl (lv_at hl 1 rfl) ?_
        refine r_get0 X hw dX10_method_51 ?_
        refine lv_imul hx hb dX10_method_54 ?_
        refine lv_iload_n hx hb dX10_method_55 rfl (lv_at hl 0 rfl) ?_
        refine lv_iadd hx hb dX10_method_56 ?_
        refine lv_iconst (v := (-1)) hx hb dX10_method_57 (by decide) ?_
        refine r_ast7N X hw hS (nadd (a := 40 * n) (b := t) (nmul (a := 40) (b := n) rfl hn) hj) (by omega) dX10_method_58 (fun H locs hw hS => ?_)
        refine lv_iinc (v := j + 1) (lv' := [(2, .int (j + 1)), (0, .ref (L (.inl 0))), (1, .int a)]) hx hb dX10_method_59 hl (k := 0) rfl rfl (by decide) rfl (fun ls hl => ?_)
        refine lv_goto (tgt := 38) hx hb dX10_method_62 (by decide) ?_
        exact ih (t + 1) _ H locs ls (by omega) (nadd (a := t) (b := 1) hj rfl) hin h8n (by rw [← sAs_fm]; exact hw) hS hl
  refine lv_iload_n hx hb dX10_method_0 rfl (lv_at hl 1 rfl) ?_
  refine lv_i2l (v := a.toInt64) hx hb dX10_method_1 rfl ?_
  refine lv_lconst (v := 0) hx hb dX10_method_2 (by decide) ?_
  refine lv_ldc2 (v := (4)) hx hb X.1.2.2.2.1 (X.1.2.2.2.2 _ kl_X10_128) dX10_method_3 ?_
  refine m_calli (m_runS (As := [.long a.toInt64, .long 0, .long (4)]) (rest := []) X (k_X10_isIn Γ l L (rM Γ L x) a.toInt64 0 (4)) s_X10_isIn ml_X10_79 hw hS rfl hl.1 ⟨Nat.le_of_ble_eq_true rfl, Nat.le_of_ble_eq_true rfl⟩ (Nat.le_of_ble_eq_true rfl) ⟨Nat.le_of_ble_eq_true rfl, Nat.le_of_ble_eq_true rfl⟩ dX10_method_6) hS (fun r_8 L1 M1 H locs hp_7 hw hS => ?_)
  obtain ⟨rfl, e1, e2⟩ := hp_7
  rw [e1, e2] at hw; clear e1 e2
  refine lv_if_ne (tgt := 14) hx hb dX10_method_9 (by decide) (fun c_9 => ?_) (fun c_9 => ?_)
  · skip
    have c_9 := bI_t c_9
    refine lv_aload_n hx hb dX10_method_14 rfl (lv_at hl 0 rfl) ?_
    refine r_get0 X hw dX10_method_15 ?_
    refine lv_bipush (v := 8) hx hb dX10_method_18 (by decide) ?_
    refine lv_icmp_ne (tgt := 26) hx hb dX10_method_20 (by decide) (fun c_11 => ?_) (fun c_11 => ?_)
    · skip
      have c_11n : ¬ n = 8 := nneT (a := n) (b := 8) hn rfl (by omega) (by omega) c_11
      refine lv_aload_n hx hb dX10_method_26 rfl (lv_at hl 0 rfl) ?_
      refine r_get1 X hw dX10_method_27 ?_
      refine lv_aload_n hx hb dX10_method_30 rfl (lv_at hl 0 rfl) ?_
      refine r_get0 X hw dX10_method_31 ?_
      refine lv_iload_n hx hb dX10_method_34 rfl (lv_at hl 1 rfl) ?_
      refine r_ast1N X hw hS hn (by omega) dX10_method_35 (fun H locs hw hS => ?_)
      refine lv_iconst (v := 0) hx hb dX10_method_36 (by decide) ?_
      refine lv_istore_n (lv' := [(2, .int 0), (0, .ref (L (.inl 0))), (1, .int a)]) hx hb dX10_method_37 rfl hl (by decide) rfl (fun ls hl => ?_)
      exact KL 40 0 _ _ _ ls rfl rfl (by assumption) (by assumption) (by have e := sAs_0 (sA x 1 n a) 7 (40 * n) (-1); show mW Γ.1 vwCl A L (rM Γ L (sAs (sA x 1 n a) 7 (fmA ((sA x 1 n a).2.1 7) (40 * n) (-1) 0))) _; rw [e]; exact hw) hS hl
    · skip
      have c_11n : n = 8 := nneF (a := n) (b := 8) hn rfl (by omega) (by omega) c_11
      refine lv_bipush (v := (-3)) hx hb dX10_method_23 (by decide) ?_
      exact m_iret X hr hlk hw hS (Nat.zero_le _) (Nat.zero_le _) ⟨by clear KL hb hx hl hS hw hnm hlk hr X; first | exact absurd ht (by omega) | (have ht40 : t = 40 := by omega; subst ht40; simp only [r_method, if_pos hin, if_neg h8n]; rfl) | (simp only [r_method, if_pos ‹r_isIn a.toInt64 0 4 = true›, if_neg ‹¬ n = 8›]; first | rfl | (show nI n + 1 - 1 = nI n; rw [show (1 : Int32) = nI 1 from rfl, nI_add, pk_sub (by omega)]; rfl) | (have ht40 : t = 40 := by omega; subst ht40; rfl)) | rfl | (simp_all [bI, r_method]; done) | (simp_all [bI, r_method]; rfl), rfl, by clear KL hb hx hl hS hw hnm hlk hr X; first | exact absurd ht (by omega) | (have ht40 : t = 40 := by omega; subst ht40; simp only [r_method, if_pos hin, if_neg h8n]; rfl) | (simp only [r_method, if_pos ‹r_isIn a.toInt64 0 4 = true›, if_neg ‹¬ n = 8›]; first | rfl | (show nI n + 1 - 1 = nI n; rw [show (1 : Int32) = nI 1 from rfl, nI_add, pk_sub (by omega)]; rfl) | (have ht40 : t = 40 := by omega; subst ht40; rfl)) | rfl | (simp_all [bI, r_method]; done) | (simp_all [bI, r_method]; rfl)⟩ dX10_method_25
  · skip
    have c_9 := bI_f c_9
    refine lv_iconst (v := (-1)) hx hb dX10_method_12 (by decide) ?_
    exact m_iret X hr hlk hw hS (Nat.zero_le _) (Nat.zero_le _) ⟨by clear KL hb hx hl hS hw hnm hlk hr X; first | exact absurd ht (by omega) | (have ht40 : t = 40 := by omega; subst ht40; simp only [r_method, if_pos hin, if_neg h8n]; rfl) | (simp only [r_method, if_pos ‹r_isIn a.toInt64 0 4 = true›, if_neg ‹¬ n = 8›]; first | rfl | (show nI n + 1 - 1 = nI n; rw [show (1 : Int32) = nI 1 from rfl, nI_add, pk_sub (by omega)]; rfl) | (have ht40 : t = 40 := by omega; subst ht40; rfl)) | rfl | (simp_all [bI, r_method]; done) | (simp_all [bI, r_method]; rfl), rfl, by clear KL hb hx hl hS hw hnm hlk hr X; first | exact absurd ht (by omega) | (have ht40 : t = 40 := by omega; subst ht40; simp only [r_method, if_pos hin, if_neg h8n]; rfl) | (simp only [r_method, if_pos ‹r_isIn a.toInt64 0 4 = true›, if_neg ‹¬ n = 8›]; first | rfl | (show nI n + 1 - 1 = nI n; rw [show (1 : Int32) = nI 1 from rfl, nI_add, pk_sub (by omega)]; rfl) | (have ht40 : t = 40 := by omega; subst ht40; rfl)) | rfl | (simp_all [bI, r_method]; done) | (simp_all [bI, r_method]; rfl)⟩ dX10_method_13
end
