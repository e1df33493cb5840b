section
-- ===== PART A: goes FIRST, ahead of the names: the tables' words, and 'selects' of the private methods out of them =====
/-- a private method of a class that the tables say can be made, by its rows of tables_1 -/
def lw_okq (q : MethodName × Nat) : Prop := (q.1.cls ≠ "java/lang/invoke/MethodHandle" ∧ q.1.cls ≠ "java/lang/invoke/VarHandle") ∧ Cond.instantiable q.1.cls q.2 ∈ tables_1 ∧ Cond.privateMethod q.1 ∈ tables_1 ∧ Cond.instanceMethod q.1 ∈ tables_1
theorem lw_p0 : lw_okq (⟨"RulerWord$Tape", "put", "(I)V"⟩, 5) := ⟨⟨by decide +kernel, by decide +kernel⟩, List.mem_of_getElem? (i := 34) (by decide +kernel), List.mem_of_getElem? (i := 379) (by decide +kernel), List.mem_of_getElem? (i := 380) (by decide +kernel)⟩
theorem lw_p1 : lw_okq (⟨"RulerWord$Tape", "add", "(I)V"⟩, 5) := ⟨⟨by decide +kernel, by decide +kernel⟩, List.mem_of_getElem? (i := 34) (by decide +kernel), List.mem_of_getElem? (i := 383) (by decide +kernel), List.mem_of_getElem? (i := 384) (by decide +kernel)⟩
theorem lw_p2 : lw_okq (⟨"RulerWord$Council", "readFrom", "(LRulerWord$Tape;)I"⟩, 8) := ⟨⟨by decide +kernel, by decide +kernel⟩, List.mem_of_getElem? (i := 63) (by decide +kernel), List.mem_of_getElem? (i := 395) (by decide +kernel), List.mem_of_getElem? (i := 396) (by decide +kernel)⟩
theorem lw_p3 : lw_okq (⟨"RulerWord$Council", "clear", "()V"⟩, 8) := ⟨⟨by decide +kernel, by decide +kernel⟩, List.mem_of_getElem? (i := 63) (by decide +kernel), List.mem_of_getElem? (i := 399) (by decide +kernel), List.mem_of_getElem? (i := 400) (by decide +kernel)⟩
theorem lw_p4 : lw_okq (⟨"RulerWord$Tape", "firstPart", "()V"⟩, 5) := ⟨⟨by decide +kernel, by decide +kernel⟩, List.mem_of_getElem? (i := 34) (by decide +kernel), List.mem_of_getElem? (i := 403) (by decide +kernel), List.mem_of_getElem? (i := 404) (by decide +kernel)⟩
theorem lw_p5 : lw_okq (⟨"RulerWord$Tape", "nextPart", "()V"⟩, 5) := ⟨⟨by decide +kernel, by decide +kernel⟩, List.mem_of_getElem? (i := 34) (by decide +kernel), List.mem_of_getElem? (i := 407) (by decide +kernel), List.mem_of_getElem? (i := 408) (by decide +kernel)⟩
theorem lw_p6 : lw_okq (⟨"RulerWord$Tape", "isWord", "(Ljava/lang/String;)Z"⟩, 5) := ⟨⟨by decide +kernel, by decide +kernel⟩, List.mem_of_getElem? (i := 34) (by decide +kernel), List.mem_of_getElem? (i := 415) (by decide +kernel), List.mem_of_getElem? (i := 416) (by decide +kernel)⟩
theorem lw_p7 : lw_okq (⟨"RulerWord$Council", "readPiece", "(LRulerWord$Tape;)Z"⟩, 8) := ⟨⟨by decide +kernel, by decide +kernel⟩, List.mem_of_getElem? (i := 63) (by decide +kernel), List.mem_of_getElem? (i := 469) (by decide +kernel), List.mem_of_getElem? (i := 470) (by decide +kernel)⟩
theorem lw_p8 : lw_okq (⟨"RulerWord$Council", "isTold", "(I)Z"⟩, 8) := ⟨⟨by decide +kernel, by decide +kernel⟩, List.mem_of_getElem? (i := 63) (by decide +kernel), List.mem_of_getElem? (i := 485) (by decide +kernel), List.mem_of_getElem? (i := 486) (by decide +kernel)⟩
theorem lw_p9 : lw_okq (⟨"RulerWord$Tape", "number", "(II)I"⟩, 5) := ⟨⟨by decide +kernel, by decide +kernel⟩, List.mem_of_getElem? (i := 34) (by decide +kernel), List.mem_of_getElem? (i := 492) (by decide +kernel), List.mem_of_getElem? (i := 493) (by decide +kernel)⟩
theorem lw_p10 : lw_okq (⟨"RulerWord$Tape", "digits", "()I"⟩, 5) := ⟨⟨by decide +kernel, by decide +kernel⟩, List.mem_of_getElem? (i := 34) (by decide +kernel), List.mem_of_getElem? (i := 496) (by decide +kernel), List.mem_of_getElem? (i := 497) (by decide +kernel)⟩
theorem lw_p11 : lw_okq (⟨"RulerWord$Tape", "digitAt", "(I)I"⟩, 5) := ⟨⟨by decide +kernel, by decide +kernel⟩, List.mem_of_getElem? (i := 34) (by decide +kernel), List.mem_of_getElem? (i := 500) (by decide +kernel), List.mem_of_getElem? (i := 501) (by decide +kernel)⟩
theorem lw_p12 : lw_okq (⟨"RulerWord$Council", "readStarts", "(LRulerWord$Tape;)Z"⟩, 8) := ⟨⟨by decide +kernel, by decide +kernel⟩, List.mem_of_getElem? (i := 63) (by decide +kernel), List.mem_of_getElem? (i := 504) (by decide +kernel), List.mem_of_getElem? (i := 505) (by decide +kernel)⟩
theorem lw_p13 : lw_okq (⟨"RulerWord$Council", "readFalses", "(LRulerWord$Tape;)Z"⟩, 8) := ⟨⟨by decide +kernel, by decide +kernel⟩, List.mem_of_getElem? (i := 63) (by decide +kernel), List.mem_of_getElem? (i := 510) (by decide +kernel), List.mem_of_getElem? (i := 511) (by decide +kernel)⟩
theorem lw_p14 : lw_okq (⟨"RulerWord$Council", "fillIn", "()V"⟩, 8) := ⟨⟨by decide +kernel, by decide +kernel⟩, List.mem_of_getElem? (i := 63) (by decide +kernel), List.mem_of_getElem? (i := 514) (by decide +kernel), List.mem_of_getElem? (i := 515) (by decide +kernel)⟩
theorem lw_p15 : lw_okq (⟨"RulerWord$Plan", "readFrom", "(LRulerWord$Tape;)I"⟩, 2) := ⟨⟨by decide +kernel, by decide +kernel⟩, List.mem_of_getElem? (i := 108) (by decide +kernel), List.mem_of_getElem? (i := 521) (by decide +kernel), List.mem_of_getElem? (i := 522) (by decide +kernel)⟩
def lw_privs_1 : List (MethodName × Nat) := [(⟨"RulerWord$Tape", "put", "(I)V"⟩, 5), (⟨"RulerWord$Tape", "add", "(I)V"⟩, 5), (⟨"RulerWord$Council", "readFrom", "(LRulerWord$Tape;)I"⟩, 8), (⟨"RulerWord$Council", "clear", "()V"⟩, 8), (⟨"RulerWord$Tape", "firstPart", "()V"⟩, 5), (⟨"RulerWord$Tape", "nextPart", "()V"⟩, 5), (⟨"RulerWord$Tape", "isWord", "(Ljava/lang/String;)Z"⟩, 5), (⟨"RulerWord$Council", "readPiece", "(LRulerWord$Tape;)Z"⟩, 8), (⟨"RulerWord$Council", "isTold", "(I)Z"⟩, 8), (⟨"RulerWord$Tape", "number", "(II)I"⟩, 5), (⟨"RulerWord$Tape", "digits", "()I"⟩, 5), (⟨"RulerWord$Tape", "digitAt", "(I)I"⟩, 5), (⟨"RulerWord$Council", "readStarts", "(LRulerWord$Tape;)Z"⟩, 8), (⟨"RulerWord$Council", "readFalses", "(LRulerWord$Tape;)Z"⟩, 8), (⟨"RulerWord$Council", "fillIn", "()V"⟩, 8), (⟨"RulerWord$Plan", "readFrom", "(LRulerWord$Tape;)I"⟩, 2)]
theorem lw_r1 : ∀ q ∈ lw_privs_1, lw_okq q := List.forall_mem_cons.mpr ⟨lw_p0, List.forall_mem_cons.mpr ⟨lw_p1, List.forall_mem_cons.mpr ⟨lw_p2, List.forall_mem_cons.mpr ⟨lw_p3, List.forall_mem_cons.mpr ⟨lw_p4, List.forall_mem_cons.mpr ⟨lw_p5, List.forall_mem_cons.mpr ⟨lw_p6, List.forall_mem_cons.mpr ⟨lw_p7, List.forall_mem_cons.mpr ⟨lw_p8, List.forall_mem_cons.mpr ⟨lw_p9, List.forall_mem_cons.mpr ⟨lw_p10, List.forall_mem_cons.mpr ⟨lw_p11, List.forall_mem_cons.mpr ⟨lw_p12, List.forall_mem_cons.mpr ⟨lw_p13, List.forall_mem_cons.mpr ⟨lw_p14, List.forall_mem_cons.mpr ⟨lw_p15, fun _ h => absurd h List.not_mem_nil⟩⟩⟩⟩⟩⟩⟩⟩⟩⟩⟩⟩⟩⟩⟩⟩
theorem lw_p16 : lw_okq (⟨"RulerWord$Plan", "readLine", "(LRulerWord$Tape;I)Z"⟩, 2) := ⟨⟨by decide +kernel, by decide +kernel⟩, List.mem_of_getElem? (i := 108) (by decide +kernel), List.mem_of_getElem? (i := 526) (by decide +kernel), List.mem_of_getElem? (i := 527) (by decide +kernel)⟩
theorem lw_p17 : lw_okq (⟨"RulerWord$Council", "copy", "(LRulerWord$Council;)V"⟩, 8) := ⟨⟨by decide +kernel, by decide +kernel⟩, List.mem_of_getElem? (i := 63) (by decide +kernel), List.mem_of_getElem? (i := 555) (by decide +kernel), List.mem_of_getElem? (i := 556) (by decide +kernel)⟩
theorem lw_p18 : lw_okq (⟨"RulerWord$Course", "begin", "(IIJ)V"⟩, 18) := ⟨⟨by decide +kernel, by decide +kernel⟩, List.mem_of_getElem? (i := 174) (by decide +kernel), List.mem_of_getElem? (i := 559) (by decide +kernel), List.mem_of_getElem? (i := 560) (by decide +kernel)⟩
theorem lw_p19 : lw_okq (⟨"RulerWord$Plan", "copy", "(LRulerWord$Plan;)V"⟩, 2) := ⟨⟨by decide +kernel, by decide +kernel⟩, List.mem_of_getElem? (i := 108) (by decide +kernel), List.mem_of_getElem? (i := 567) (by decide +kernel), List.mem_of_getElem? (i := 568) (by decide +kernel)⟩
theorem lw_p20 : lw_okq (⟨"RulerWord$Council", "phaseAt", "(I)I"⟩, 8) := ⟨⟨by decide +kernel, by decide +kernel⟩, List.mem_of_getElem? (i := 63) (by decide +kernel), List.mem_of_getElem? (i := 579) (by decide +kernel), List.mem_of_getElem? (i := 580) (by decide +kernel)⟩
theorem lw_p21 : lw_okq (⟨"RulerWord$Council", "rounds", "()I"⟩, 8) := ⟨⟨by decide +kernel, by decide +kernel⟩, List.mem_of_getElem? (i := 63) (by decide +kernel), List.mem_of_getElem? (i := 583) (by decide +kernel), List.mem_of_getElem? (i := 584) (by decide +kernel)⟩
theorem lw_p22 : lw_okq (⟨"RulerWord$Council", "turnAt", "(I)I"⟩, 8) := ⟨⟨by decide +kernel, by decide +kernel⟩, List.mem_of_getElem? (i := 63) (by decide +kernel), List.mem_of_getElem? (i := 587) (by decide +kernel), List.mem_of_getElem? (i := 588) (by decide +kernel)⟩
theorem lw_p23 : lw_okq (⟨"RulerWord", "roundsLeft", "()I"⟩, 18) := ⟨⟨by decide +kernel, by decide +kernel⟩, List.mem_of_getElem? (i := 26) (by decide +kernel), List.mem_of_getElem? (i := 596) (by decide +kernel), List.mem_of_getElem? (i := 597) (by decide +kernel)⟩
theorem lw_p24 : lw_okq (⟨"RulerWord$Council", "allRounds", "()I"⟩, 8) := ⟨⟨by decide +kernel, by decide +kernel⟩, List.mem_of_getElem? (i := 63) (by decide +kernel), List.mem_of_getElem? (i := 600) (by decide +kernel), List.mem_of_getElem? (i := 601) (by decide +kernel)⟩
theorem lw_p25 : lw_okq (⟨"RulerWord$Acts", "keep", "(LRulerWord$Course;)V"⟩, 3) := ⟨⟨by decide +kernel, by decide +kernel⟩, List.mem_of_getElem? (i := 249) (by decide +kernel), List.mem_of_getElem? (i := 604) (by decide +kernel), List.mem_of_getElem? (i := 605) (by decide +kernel)⟩
theorem lw_p26 : lw_okq (⟨"RulerWord$Course", "copy", "(LRulerWord$Course;)V"⟩, 18) := ⟨⟨by decide +kernel, by decide +kernel⟩, List.mem_of_getElem? (i := 174) (by decide +kernel), List.mem_of_getElem? (i := 608) (by decide +kernel), List.mem_of_getElem? (i := 609) (by decide +kernel)⟩
theorem lw_p27 : lw_okq (⟨"RulerWord$Course", "play", "(LRulerWord$Council;LRulerWord$Voice;)V"⟩, 18) := ⟨⟨by decide +kernel, by decide +kernel⟩, List.mem_of_getElem? (i := 174) (by decide +kernel), List.mem_of_getElem? (i := 616) (by decide +kernel), List.mem_of_getElem? (i := 617) (by decide +kernel)⟩
theorem lw_p28 : lw_okq (⟨"RulerWord$Council", "ruler", "(I)I"⟩, 8) := ⟨⟨by decide +kernel, by decide +kernel⟩, List.mem_of_getElem? (i := 63) (by decide +kernel), List.mem_of_getElem? (i := 623) (by decide +kernel), List.mem_of_getElem? (i := 624) (by decide +kernel)⟩
theorem lw_p29 : lw_okq (⟨"RulerWord$Course", "send", "(LRulerWord$Council;LRulerWord$Voice;II)V"⟩, 18) := ⟨⟨by decide +kernel, by decide +kernel⟩, List.mem_of_getElem? (i := 174) (by decide +kernel), List.mem_of_getElem? (i := 627) (by decide +kernel), List.mem_of_getElem? (i := 628) (by decide +kernel)⟩
theorem lw_p30 : lw_okq (⟨"RulerWord$Course", "rowOf", "(LRulerWord$Council;LRulerWord$Voice;I)J"⟩, 18) := ⟨⟨by decide +kernel, by decide +kernel⟩, List.mem_of_getElem? (i := 174) (by decide +kernel), List.mem_of_getElem? (i := 631) (by decide +kernel), List.mem_of_getElem? (i := 632) (by decide +kernel)⟩
theorem lw_p31 : lw_okq (⟨"RulerWord$Course", "trueLetter", "(LRulerWord$Council;LRulerWord$Voice;I)I"⟩, 18) := ⟨⟨by decide +kernel, by decide +kernel⟩, List.mem_of_getElem? (i := 174) (by decide +kernel), List.mem_of_getElem? (i := 635) (by decide +kernel), List.mem_of_getElem? (i := 636) (by decide +kernel)⟩
def lw_privs_2 : List (MethodName × Nat) := [(⟨"RulerWord$Plan", "readLine", "(LRulerWord$Tape;I)Z"⟩, 2), (⟨"RulerWord$Council", "copy", "(LRulerWord$Council;)V"⟩, 8), (⟨"RulerWord$Course", "begin", "(IIJ)V"⟩, 18), (⟨"RulerWord$Plan", "copy", "(LRulerWord$Plan;)V"⟩, 2), (⟨"RulerWord$Council", "phaseAt", "(I)I"⟩, 8), (⟨"RulerWord$Council", "rounds", "()I"⟩, 8), (⟨"RulerWord$Council", "turnAt", "(I)I"⟩, 8), (⟨"RulerWord", "roundsLeft", "()I"⟩, 18), (⟨"RulerWord$Council", "allRounds", "()I"⟩, 8), (⟨"RulerWord$Acts", "keep", "(LRulerWord$Course;)V"⟩, 3), (⟨"RulerWord$Course", "copy", "(LRulerWord$Course;)V"⟩, 18), (⟨"RulerWord$Course", "play", "(LRulerWord$Council;LRulerWord$Voice;)V"⟩, 18), (⟨"RulerWord$Council", "ruler", "(I)I"⟩, 8), (⟨"RulerWord$Course", "send", "(LRulerWord$Council;LRulerWord$Voice;II)V"⟩, 18), (⟨"RulerWord$Course", "rowOf", "(LRulerWord$Council;LRulerWord$Voice;I)J"⟩, 18), (⟨"RulerWord$Course", "trueLetter", "(LRulerWord$Council;LRulerWord$Voice;I)I"⟩, 18)]
theorem lw_r2 : ∀ q ∈ lw_privs_2, lw_okq q := List.forall_mem_cons.mpr ⟨lw_p16, List.forall_mem_cons.mpr ⟨lw_p17, List.forall_mem_cons.mpr ⟨lw_p18, List.forall_mem_cons.mpr ⟨lw_p19, List.forall_mem_cons.mpr ⟨lw_p20, List.forall_mem_cons.mpr ⟨lw_p21, List.forall_mem_cons.mpr ⟨lw_p22, List.forall_mem_cons.mpr ⟨lw_p23, List.forall_mem_cons.mpr ⟨lw_p24, List.forall_mem_cons.mpr ⟨lw_p25, List.forall_mem_cons.mpr ⟨lw_p26, List.forall_mem_cons.mpr ⟨lw_p27, List.forall_mem_cons.mpr ⟨lw_p28, List.forall_mem_cons.mpr ⟨lw_p29, List.forall_mem_cons.mpr ⟨lw_p30, List.forall_mem_cons.mpr ⟨lw_p31, fun _ h => absurd h List.not_mem_nil⟩⟩⟩⟩⟩⟩⟩⟩⟩⟩⟩⟩⟩⟩⟩⟩
theorem lw_p32 : lw_okq (⟨"RulerWord$Course", "draw", "()I"⟩, 18) := ⟨⟨by decide +kernel, by decide +kernel⟩, List.mem_of_getElem? (i := 174) (by decide +kernel), List.mem_of_getElem? (i := 650) (by decide +kernel), List.mem_of_getElem? (i := 651) (by decide +kernel)⟩
theorem lw_p33 : lw_okq (⟨"RulerWord$Course", "saidLetter", "(IIII)I"⟩, 18) := ⟨⟨by decide +kernel, by decide +kernel⟩, List.mem_of_getElem? (i := 174) (by decide +kernel), List.mem_of_getElem? (i := 664) (by decide +kernel), List.mem_of_getElem? (i := 665) (by decide +kernel)⟩
theorem lw_p34 : lw_okq (⟨"RulerWord$Plan", "actFor", "(IIII)I"⟩, 2) := ⟨⟨by decide +kernel, by decide +kernel⟩, List.mem_of_getElem? (i := 108) (by decide +kernel), List.mem_of_getElem? (i := 671) (by decide +kernel), List.mem_of_getElem? (i := 672) (by decide +kernel)⟩
theorem lw_p35 : lw_okq (⟨"RulerWord$Course", "hearRuler", "(LRulerWord$Council;II)V"⟩, 18) := ⟨⟨by decide +kernel, by decide +kernel⟩, List.mem_of_getElem? (i := 174) (by decide +kernel), List.mem_of_getElem? (i := 687) (by decide +kernel), List.mem_of_getElem? (i := 688) (by decide +kernel)⟩
theorem lw_p36 : lw_okq (⟨"RulerWord$Course", "letter", "(IIII)I"⟩, 18) := ⟨⟨by decide +kernel, by decide +kernel⟩, List.mem_of_getElem? (i := 174) (by decide +kernel), List.mem_of_getElem? (i := 691) (by decide +kernel), List.mem_of_getElem? (i := 692) (by decide +kernel)⟩
theorem lw_p37 : lw_okq (⟨"RulerWord$Course", "waryOf", "(I)I"⟩, 18) := ⟨⟨by decide +kernel, by decide +kernel⟩, List.mem_of_getElem? (i := 174) (by decide +kernel), List.mem_of_getElem? (i := 695) (by decide +kernel), List.mem_of_getElem? (i := 696) (by decide +kernel)⟩
theorem lw_p38 : lw_okq (⟨"RulerWord$Course", "hearAll", "(LRulerWord$Council;II)V"⟩, 18) := ⟨⟨by decide +kernel, by decide +kernel⟩, List.mem_of_getElem? (i := 174) (by decide +kernel), List.mem_of_getElem? (i := 699) (by decide +kernel), List.mem_of_getElem? (i := 700) (by decide +kernel)⟩
theorem lw_p39 : lw_okq (⟨"RulerWord$Course", "zerosHeard", "(LRulerWord$Council;III)I"⟩, 18) := ⟨⟨by decide +kernel, by decide +kernel⟩, List.mem_of_getElem? (i := 174) (by decide +kernel), List.mem_of_getElem? (i := 703) (by decide +kernel), List.mem_of_getElem? (i := 704) (by decide +kernel)⟩
theorem lw_p40 : lw_okq (⟨"RulerWord$Course", "onesHeard", "(III)I"⟩, 18) := ⟨⟨by decide +kernel, by decide +kernel⟩, List.mem_of_getElem? (i := 174) (by decide +kernel), List.mem_of_getElem? (i := 707) (by decide +kernel), List.mem_of_getElem? (i := 708) (by decide +kernel)⟩
theorem lw_p41 : lw_okq (⟨"RulerWord$Council", "offer", "(II)I"⟩, 8) := ⟨⟨by decide +kernel, by decide +kernel⟩, List.mem_of_getElem? (i := 63) (by decide +kernel), List.mem_of_getElem? (i := 711) (by decide +kernel), List.mem_of_getElem? (i := 712) (by decide +kernel)⟩
theorem lw_p42 : lw_okq (⟨"RulerWord$Council", "view", "(II)I"⟩, 8) := ⟨⟨by decide +kernel, by decide +kernel⟩, List.mem_of_getElem? (i := 63) (by decide +kernel), List.mem_of_getElem? (i := 715) (by decide +kernel), List.mem_of_getElem? (i := 716) (by decide +kernel)⟩
theorem lw_p43 : lw_okq (⟨"RulerWord$Course", "takeView", "(LRulerWord$Council;III)V"⟩, 18) := ⟨⟨by decide +kernel, by decide +kernel⟩, List.mem_of_getElem? (i := 174) (by decide +kernel), List.mem_of_getElem? (i := 722) (by decide +kernel), List.mem_of_getElem? (i := 723) (by decide +kernel)⟩
theorem lw_p44 : lw_okq (⟨"RulerWord", "whyNotSaid", "(IIIII)I"⟩, 18) := ⟨⟨by decide +kernel, by decide +kernel⟩, List.mem_of_getElem? (i := 26) (by decide +kernel), List.mem_of_getElem? (i := 734) (by decide +kernel), List.mem_of_getElem? (i := 735) (by decide +kernel)⟩
theorem lw_p45 : lw_okq (⟨"RulerWord", "isRound", "(II)Z"⟩, 18) := ⟨⟨by decide +kernel, by decide +kernel⟩, List.mem_of_getElem? (i := 26) (by decide +kernel), List.mem_of_getElem? (i := 738) (by decide +kernel), List.mem_of_getElem? (i := 739) (by decide +kernel)⟩
theorem lw_p46 : lw_okq (⟨"RulerWord", "isPeer", "(I)Z"⟩, 18) := ⟨⟨by decide +kernel, by decide +kernel⟩, List.mem_of_getElem? (i := 26) (by decide +kernel), List.mem_of_getElem? (i := 742) (by decide +kernel), List.mem_of_getElem? (i := 743) (by decide +kernel)⟩
theorem lw_p47 : lw_okq (⟨"RulerWord", "isGone", "(II)Z"⟩, 18) := ⟨⟨by decide +kernel, by decide +kernel⟩, List.mem_of_getElem? (i := 26) (by decide +kernel), List.mem_of_getElem? (i := 747) (by decide +kernel), List.mem_of_getElem? (i := 748) (by decide +kernel)⟩
def lw_privs_3 : List (MethodName × Nat) := [(⟨"RulerWord$Course", "draw", "()I"⟩, 18), (⟨"RulerWord$Course", "saidLetter", "(IIII)I"⟩, 18), (⟨"RulerWord$Plan", "actFor", "(IIII)I"⟩, 2), (⟨"RulerWord$Course", "hearRuler", "(LRulerWord$Council;II)V"⟩, 18), (⟨"RulerWord$Course", "letter", "(IIII)I"⟩, 18), (⟨"RulerWord$Course", "waryOf", "(I)I"⟩, 18), (⟨"RulerWord$Course", "hearAll", "(LRulerWord$Council;II)V"⟩, 18), (⟨"RulerWord$Course", "zerosHeard", "(LRulerWord$Council;III)I"⟩, 18), (⟨"RulerWord$Course", "onesHeard", "(III)I"⟩, 18), (⟨"RulerWord$Council", "offer", "(II)I"⟩, 8), (⟨"RulerWord$Council", "view", "(II)I"⟩, 8), (⟨"RulerWord$Course", "takeView", "(LRulerWord$Council;III)V"⟩, 18), (⟨"RulerWord", "whyNotSaid", "(IIIII)I"⟩, 18), (⟨"RulerWord", "isRound", "(II)Z"⟩, 18), (⟨"RulerWord", "isPeer", "(I)Z"⟩, 18), (⟨"RulerWord", "isGone", "(II)Z"⟩, 18)]
theorem lw_r3 : ∀ q ∈ lw_privs_3, lw_okq q := List.forall_mem_cons.mpr ⟨lw_p32, List.forall_mem_cons.mpr ⟨lw_p33, List.forall_mem_cons.mpr ⟨lw_p34, List.forall_mem_cons.mpr ⟨lw_p35, List.forall_mem_cons.mpr ⟨lw_p36, List.forall_mem_cons.mpr ⟨lw_p37, List.forall_mem_cons.mpr ⟨lw_p38, List.forall_mem_cons.mpr ⟨lw_p39, List.forall_mem_cons.mpr ⟨lw_p40, List.forall_mem_cons.mpr ⟨lw_p41, List.forall_mem_cons.mpr ⟨lw_p42, List.forall_mem_cons.mpr ⟨lw_p43, List.forall_mem_cons.mpr ⟨lw_p44, List.forall_mem_cons.mpr ⟨lw_p45, List.forall_mem_cons.mpr ⟨lw_p46, List.forall_mem_cons.mpr ⟨lw_p47, fun _ h => absurd h List.not_mem_nil⟩⟩⟩⟩⟩⟩⟩⟩⟩⟩⟩⟩⟩⟩⟩⟩
theorem lw_p48 : lw_okq (⟨"RulerWord", "refuse", "(I)I"⟩, 18) := ⟨⟨by decide +kernel, by decide +kernel⟩, List.mem_of_getElem? (i := 26) (by decide +kernel), List.mem_of_getElem? (i := 751) (by decide +kernel), List.mem_of_getElem? (i := 752) (by decide +kernel)⟩
theorem lw_p49 : lw_okq (⟨"RulerWord$Course", "addSaid", "(IIIII)V"⟩, 18) := ⟨⟨by decide +kernel, by decide +kernel⟩, List.mem_of_getElem? (i := 174) (by decide +kernel), List.mem_of_getElem? (i := 755) (by decide +kernel), List.mem_of_getElem? (i := 756) (by decide +kernel)⟩
theorem lw_p50 : lw_okq (⟨"RulerWord$Council", "everybody", "()I"⟩, 8) := ⟨⟨by decide +kernel, by decide +kernel⟩, List.mem_of_getElem? (i := 63) (by decide +kernel), List.mem_of_getElem? (i := 763) (by decide +kernel), List.mem_of_getElem? (i := 764) (by decide +kernel)⟩
theorem lw_p51 : lw_okq (⟨"RulerWord", "whyNotTold", "(II)I"⟩, 18) := ⟨⟨by decide +kernel, by decide +kernel⟩, List.mem_of_getElem? (i := 26) (by decide +kernel), List.mem_of_getElem? (i := 767) (by decide +kernel), List.mem_of_getElem? (i := 768) (by decide +kernel)⟩
theorem lw_p52 : lw_okq (⟨"RulerWord$Course", "dropSaidByTrue", "()V"⟩, 18) := ⟨⟨by decide +kernel, by decide +kernel⟩, List.mem_of_getElem? (i := 174) (by decide +kernel), List.mem_of_getElem? (i := 775) (by decide +kernel), List.mem_of_getElem? (i := 776) (by decide +kernel)⟩
theorem lw_p53 : lw_okq (⟨"RulerWord$Course", "suspectedBy", "(I)I"⟩, 18) := ⟨⟨by decide +kernel, by decide +kernel⟩, List.mem_of_getElem? (i := 174) (by decide +kernel), List.mem_of_getElem? (i := 789) (by decide +kernel), List.mem_of_getElem? (i := 790) (by decide +kernel)⟩
theorem lw_p54 : lw_okq (⟨"RulerWord", "isOver", "(I)Z"⟩, 18) := ⟨⟨by decide +kernel, by decide +kernel⟩, List.mem_of_getElem? (i := 26) (by decide +kernel), List.mem_of_getElem? (i := 797) (by decide +kernel), List.mem_of_getElem? (i := 798) (by decide +kernel)⟩
theorem lw_p55 : lw_okq (⟨"RulerWord", "phasesOver", "()I"⟩, 18) := ⟨⟨by decide +kernel, by decide +kernel⟩, List.mem_of_getElem? (i := 26) (by decide +kernel), List.mem_of_getElem? (i := 801) (by decide +kernel), List.mem_of_getElem? (i := 802) (by decide +kernel)⟩
theorem lw_p56 : lw_okq (⟨"RulerWord$Course", "agreedFrom", "(LRulerWord$Council;)I"⟩, 18) := ⟨⟨by decide +kernel, by decide +kernel⟩, List.mem_of_getElem? (i := 174) (by decide +kernel), List.mem_of_getElem? (i := 813) (by decide +kernel), List.mem_of_getElem? (i := 814) (by decide +kernel)⟩
theorem lw_p57 : lw_okq (⟨"RulerWord$Course", "alike", "(LRulerWord$Council;I)Z"⟩, 18) := ⟨⟨by decide +kernel, by decide +kernel⟩, List.mem_of_getElem? (i := 174) (by decide +kernel), List.mem_of_getElem? (i := 817) (by decide +kernel), List.mem_of_getElem? (i := 818) (by decide +kernel)⟩
theorem lw_p58 : lw_okq (⟨"RulerWord$Course", "trues", "(LRulerWord$Council;)I"⟩, 18) := ⟨⟨by decide +kernel, by decide +kernel⟩, List.mem_of_getElem? (i := 174) (by decide +kernel), List.mem_of_getElem? (i := 821) (by decide +kernel), List.mem_of_getElem? (i := 822) (by decide +kernel)⟩
theorem lw_p59 : lw_okq (⟨"RulerWord", "isSomeStart", "(I)Z"⟩, 18) := ⟨⟨by decide +kernel, by decide +kernel⟩, List.mem_of_getElem? (i := 26) (by decide +kernel), List.mem_of_getElem? (i := 838) (by decide +kernel), List.mem_of_getElem? (i := 839) (by decide +kernel)⟩
theorem lw_p60 : lw_okq (⟨"RulerWord$Council", "foretold", "()I"⟩, 8) := ⟨⟨by decide +kernel, by decide +kernel⟩, List.mem_of_getElem? (i := 63) (by decide +kernel), List.mem_of_getElem? (i := 846) (by decide +kernel), List.mem_of_getElem? (i := 847) (by decide +kernel)⟩
theorem lw_p61 : lw_okq (⟨"RulerWord", "freeWith", "(I)I"⟩, 18) := ⟨⟨by decide +kernel, by decide +kernel⟩, List.mem_of_getElem? (i := 26) (by decide +kernel), List.mem_of_getElem? (i := 863) (by decide +kernel), List.mem_of_getElem? (i := 864) (by decide +kernel)⟩
theorem lw_p62 : lw_okq (⟨"RulerWord$Council", "freeLetters", "(II)I"⟩, 8) := ⟨⟨by decide +kernel, by decide +kernel⟩, List.mem_of_getElem? (i := 63) (by decide +kernel), List.mem_of_getElem? (i := 867) (by decide +kernel), List.mem_of_getElem? (i := 868) (by decide +kernel)⟩
theorem lw_p63 : lw_okq (⟨"RulerWord", "isAsked", "(I)Z"⟩, 18) := ⟨⟨by decide +kernel, by decide +kernel⟩, List.mem_of_getElem? (i := 26) (by decide +kernel), List.mem_of_getElem? (i := 877) (by decide +kernel), List.mem_of_getElem? (i := 878) (by decide +kernel)⟩
def lw_privs_4 : List (MethodName × Nat) := [(⟨"RulerWord", "refuse", "(I)I"⟩, 18), (⟨"RulerWord$Course", "addSaid", "(IIIII)V"⟩, 18), (⟨"RulerWord$Council", "everybody", "()I"⟩, 8), (⟨"RulerWord", "whyNotTold", "(II)I"⟩, 18), (⟨"RulerWord$Course", "dropSaidByTrue", "()V"⟩, 18), (⟨"RulerWord$Course", "suspectedBy", "(I)I"⟩, 18), (⟨"RulerWord", "isOver", "(I)Z"⟩, 18), (⟨"RulerWord", "phasesOver", "()I"⟩, 18), (⟨"RulerWord$Course", "agreedFrom", "(LRulerWord$Council;)I"⟩, 18), (⟨"RulerWord$Course", "alike", "(LRulerWord$Council;I)Z"⟩, 18), (⟨"RulerWord$Course", "trues", "(LRulerWord$Council;)I"⟩, 18), (⟨"RulerWord", "isSomeStart", "(I)Z"⟩, 18), (⟨"RulerWord$Council", "foretold", "()I"⟩, 8), (⟨"RulerWord", "freeWith", "(I)I"⟩, 18), (⟨"RulerWord$Council", "freeLetters", "(II)I"⟩, 8), (⟨"RulerWord", "isAsked", "(I)Z"⟩, 18)]
theorem lw_r4 : ∀ q ∈ lw_privs_4, lw_okq q := List.forall_mem_cons.mpr ⟨lw_p48, List.forall_mem_cons.mpr ⟨lw_p49, List.forall_mem_cons.mpr ⟨lw_p50, List.forall_mem_cons.mpr ⟨lw_p51, List.forall_mem_cons.mpr ⟨lw_p52, List.forall_mem_cons.mpr ⟨lw_p53, List.forall_mem_cons.mpr ⟨lw_p54, List.forall_mem_cons.mpr ⟨lw_p55, List.forall_mem_cons.mpr ⟨lw_p56, List.forall_mem_cons.mpr ⟨lw_p57, List.forall_mem_cons.mpr ⟨lw_p58, List.forall_mem_cons.mpr ⟨lw_p59, List.forall_mem_cons.mpr ⟨lw_p60, List.forall_mem_cons.mpr ⟨lw_p61, List.forall_mem_cons.mpr ⟨lw_p62, List.forall_mem_cons.mpr ⟨lw_p63, fun _ h => absurd h List.not_mem_nil⟩⟩⟩⟩⟩⟩⟩⟩⟩⟩⟩⟩⟩⟩⟩⟩
theorem lw_p64 : lw_okq (⟨"RulerWord$Search", "prepare", "(LRulerWord$Council;II)V"⟩, 14) := ⟨⟨by decide +kernel, by decide +kernel⟩, List.mem_of_getElem? (i := 269) (by decide +kernel), List.mem_of_getElem? (i := 881) (by decide +kernel), List.mem_of_getElem? (i := 882) (by decide +kernel)⟩
theorem lw_p65 : lw_okq (⟨"RulerWord$Search", "least", "(I)I"⟩, 14) := ⟨⟨by decide +kernel, by decide +kernel⟩, List.mem_of_getElem? (i := 269) (by decide +kernel), List.mem_of_getElem? (i := 890) (by decide +kernel), List.mem_of_getElem? (i := 891) (by decide +kernel)⟩
theorem lw_p66 : lw_okq (⟨"RulerWord$Search", "explore", "(IIJI)V"⟩, 14) := ⟨⟨by decide +kernel, by decide +kernel⟩, List.mem_of_getElem? (i := 269) (by decide +kernel), List.mem_of_getElem? (i := 894) (by decide +kernel), List.mem_of_getElem? (i := 895) (by decide +kernel)⟩
theorem lw_p67 : lw_okq (⟨"RulerWord$Search", "judge", "(II)V"⟩, 14) := ⟨⟨by decide +kernel, by decide +kernel⟩, List.mem_of_getElem? (i := 269) (by decide +kernel), List.mem_of_getElem? (i := 898) (by decide +kernel), List.mem_of_getElem? (i := 899) (by decide +kernel)⟩
theorem lw_p68 : lw_okq (⟨"RulerWord$Search", "tryOffers", "(IIJI)V"⟩, 14) := ⟨⟨by decide +kernel, by decide +kernel⟩, List.mem_of_getElem? (i := 269) (by decide +kernel), List.mem_of_getElem? (i := 902) (by decide +kernel), List.mem_of_getElem? (i := 903) (by decide +kernel)⟩
theorem lw_p69 : lw_okq (⟨"RulerWord$Search", "addChoice", "(IIII)I"⟩, 14) := ⟨⟨by decide +kernel, by decide +kernel⟩, List.mem_of_getElem? (i := 269) (by decide +kernel), List.mem_of_getElem? (i := 907) (by decide +kernel), List.mem_of_getElem? (i := 908) (by decide +kernel)⟩
theorem lw_p70 : lw_okq (⟨"RulerWord$Search", "power", "(I)I"⟩, 14) := ⟨⟨by decide +kernel, by decide +kernel⟩, List.mem_of_getElem? (i := 269) (by decide +kernel), List.mem_of_getElem? (i := 911) (by decide +kernel), List.mem_of_getElem? (i := 912) (by decide +kernel)⟩
theorem lw_p71 : lw_okq (⟨"RulerWord$Search", "isEnough", "()Z"⟩, 14) := ⟨⟨by decide +kernel, by decide +kernel⟩, List.mem_of_getElem? (i := 269) (by decide +kernel), List.mem_of_getElem? (i := 915) (by decide +kernel), List.mem_of_getElem? (i := 916) (by decide +kernel)⟩
theorem lw_p72 : lw_okq (⟨"RulerWord$Search", "bitsOf", "(II)I"⟩, 14) := ⟨⟨by decide +kernel, by decide +kernel⟩, List.mem_of_getElem? (i := 269) (by decide +kernel), List.mem_of_getElem? (i := 922) (by decide +kernel), List.mem_of_getElem? (i := 923) (by decide +kernel)⟩
theorem lw_p73 : lw_okq (⟨"RulerWord$Search", "tryViews", "(IIJII)V"⟩, 14) := ⟨⟨by decide +kernel, by decide +kernel⟩, List.mem_of_getElem? (i := 269) (by decide +kernel), List.mem_of_getElem? (i := 926) (by decide +kernel), List.mem_of_getElem? (i := 927) (by decide +kernel)⟩
theorem lw_p74 : lw_okq (⟨"RulerWord$Search", "tryRuler", "(IIIJI)V"⟩, 14) := ⟨⟨by decide +kernel, by decide +kernel⟩, List.mem_of_getElem? (i := 269) (by decide +kernel), List.mem_of_getElem? (i := 934) (by decide +kernel), List.mem_of_getElem? (i := 935) (by decide +kernel)⟩
theorem lw_p75 : lw_okq (⟨"RulerWord$Search", "doesSuspicionCount", "(I)Z"⟩, 14) := ⟨⟨by decide +kernel, by decide +kernel⟩, List.mem_of_getElem? (i := 269) (by decide +kernel), List.mem_of_getElem? (i := 939) (by decide +kernel), List.mem_of_getElem? (i := 940) (by decide +kernel)⟩
theorem lw_p76 : lw_okq (⟨"RulerWord$Search", "spread", "(I)I"⟩, 14) := ⟨⟨by decide +kernel, by decide +kernel⟩, List.mem_of_getElem? (i := 269) (by decide +kernel), List.mem_of_getElem? (i := 943) (by decide +kernel), List.mem_of_getElem? (i := 944) (by decide +kernel)⟩
theorem lw_p77 : lw_okq (⟨"RulerWord", "countBrokenStarts", "(I)I"⟩, 18) := ⟨⟨by decide +kernel, by decide +kernel⟩, List.mem_of_getElem? (i := 26) (by decide +kernel), List.mem_of_getElem? (i := 951) (by decide +kernel), List.mem_of_getElem? (i := 952) (by decide +kernel)⟩
theorem lw_p78 : lw_okq (⟨"RulerWord$Search", "isBroken", "(I)Z"⟩, 14) := ⟨⟨by decide +kernel, by decide +kernel⟩, List.mem_of_getElem? (i := 269) (by decide +kernel), List.mem_of_getElem? (i := 955) (by decide +kernel), List.mem_of_getElem? (i := 956) (by decide +kernel)⟩
theorem lw_p79 : lw_okq (⟨"RulerWord", "leastBrokenStart", "(I)I"⟩, 18) := ⟨⟨by decide +kernel, by decide +kernel⟩, List.mem_of_getElem? (i := 26) (by decide +kernel), List.mem_of_getElem? (i := 959) (by decide +kernel), List.mem_of_getElem? (i := 960) (by decide +kernel)⟩
def lw_privs_5 : List (MethodName × Nat) := [(⟨"RulerWord$Search", "prepare", "(LRulerWord$Council;II)V"⟩, 14), (⟨"RulerWord$Search", "least", "(I)I"⟩, 14), (⟨"RulerWord$Search", "explore", "(IIJI)V"⟩, 14), (⟨"RulerWord$Search", "judge", "(II)V"⟩, 14), (⟨"RulerWord$Search", "tryOffers", "(IIJI)V"⟩, 14), (⟨"RulerWord$Search", "addChoice", "(IIII)I"⟩, 14), (⟨"RulerWord$Search", "power", "(I)I"⟩, 14), (⟨"RulerWord$Search", "isEnough", "()Z"⟩, 14), (⟨"RulerWord$Search", "bitsOf", "(II)I"⟩, 14), (⟨"RulerWord$Search", "tryViews", "(IIJII)V"⟩, 14), (⟨"RulerWord$Search", "tryRuler", "(IIIJI)V"⟩, 14), (⟨"RulerWord$Search", "doesSuspicionCount", "(I)Z"⟩, 14), (⟨"RulerWord$Search", "spread", "(I)I"⟩, 14), (⟨"RulerWord", "countBrokenStarts", "(I)I"⟩, 18), (⟨"RulerWord$Search", "isBroken", "(I)Z"⟩, 14), (⟨"RulerWord", "leastBrokenStart", "(I)I"⟩, 18)]
theorem lw_r5 : ∀ q ∈ lw_privs_5, lw_okq q := List.forall_mem_cons.mpr ⟨lw_p64, List.forall_mem_cons.mpr ⟨lw_p65, List.forall_mem_cons.mpr ⟨lw_p66, List.forall_mem_cons.mpr ⟨lw_p67, List.forall_mem_cons.mpr ⟨lw_p68, List.forall_mem_cons.mpr ⟨lw_p69, List.forall_mem_cons.mpr ⟨lw_p70, List.forall_mem_cons.mpr ⟨lw_p71, List.forall_mem_cons.mpr ⟨lw_p72, List.forall_mem_cons.mpr ⟨lw_p73, List.forall_mem_cons.mpr ⟨lw_p74, List.forall_mem_cons.mpr ⟨lw_p75, List.forall_mem_cons.mpr ⟨lw_p76, List.forall_mem_cons.mpr ⟨lw_p77, List.forall_mem_cons.mpr ⟨lw_p78, List.forall_mem_cons.mpr ⟨lw_p79, fun _ h => absurd h List.not_mem_nil⟩⟩⟩⟩⟩⟩⟩⟩⟩⟩⟩⟩⟩⟩⟩⟩
theorem lw_p80 : lw_okq (⟨"RulerWord", "writeBrokenRound", "(III)V"⟩, 18) := ⟨⟨by decide +kernel, by decide +kernel⟩, List.mem_of_getElem? (i := 26) (by decide +kernel), List.mem_of_getElem? (i := 972) (by decide +kernel), List.mem_of_getElem? (i := 973) (by decide +kernel)⟩
theorem lw_p81 : lw_okq (⟨"RulerWord", "freeBefore", "(II)I"⟩, 18) := ⟨⟨by decide +kernel, by decide +kernel⟩, List.mem_of_getElem? (i := 26) (by decide +kernel), List.mem_of_getElem? (i := 976) (by decide +kernel), List.mem_of_getElem? (i := 977) (by decide +kernel)⟩
theorem lw_p82 : lw_okq (⟨"RulerWord$Tape", "writeNumber", "(Ljava/lang/String;I)V"⟩, 5) := ⟨⟨by decide +kernel, by decide +kernel⟩, List.mem_of_getElem? (i := 34) (by decide +kernel), List.mem_of_getElem? (i := 982) (by decide +kernel), List.mem_of_getElem? (i := 983) (by decide +kernel)⟩
theorem lw_p83 : lw_okq (⟨"RulerWord$Tape", "write", "(Ljava/lang/String;)V"⟩, 5) := ⟨⟨by decide +kernel, by decide +kernel⟩, List.mem_of_getElem? (i := 34) (by decide +kernel), List.mem_of_getElem? (i := 986) (by decide +kernel), List.mem_of_getElem? (i := 987) (by decide +kernel)⟩
theorem lw_p84 : lw_okq (⟨"RulerWord", "byteOfText", "(I)I"⟩, 18) := ⟨⟨by decide +kernel, by decide +kernel⟩, List.mem_of_getElem? (i := 26) (by decide +kernel), List.mem_of_getElem? (i := 994) (by decide +kernel), List.mem_of_getElem? (i := 995) (by decide +kernel)⟩
theorem lw_p85 : lw_okq (⟨"RulerWord", "ruledIn", "(III)I"⟩, 18) := ⟨⟨by decide +kernel, by decide +kernel⟩, List.mem_of_getElem? (i := 26) (by decide +kernel), List.mem_of_getElem? (i := 1006) (by decide +kernel), List.mem_of_getElem? (i := 1007) (by decide +kernel)⟩
theorem lw_p86 : lw_okq (⟨"RulerWord$Course", "crossedIn", "(LRulerWord$Council;I)I"⟩, 18) := ⟨⟨by decide +kernel, by decide +kernel⟩, List.mem_of_getElem? (i := 174) (by decide +kernel), List.mem_of_getElem? (i := 1010) (by decide +kernel), List.mem_of_getElem? (i := 1011) (by decide +kernel)⟩
theorem lw_p87 : lw_okq (⟨"RulerWord", "reachedByRuler", "(II)I"⟩, 18) := ⟨⟨by decide +kernel, by decide +kernel⟩, List.mem_of_getElem? (i := 26) (by decide +kernel), List.mem_of_getElem? (i := 1014) (by decide +kernel), List.mem_of_getElem? (i := 1015) (by decide +kernel)⟩
theorem lw_p88 : lw_okq (⟨"RulerWord", "playTrial", "(LRulerWord$Council;LRulerWord$Voice;J)V"⟩, 18) := ⟨⟨by decide +kernel, by decide +kernel⟩, List.mem_of_getElem? (i := 26) (by decide +kernel), List.mem_of_getElem? (i := 1022) (by decide +kernel), List.mem_of_getElem? (i := 1023) (by decide +kernel)⟩
theorem lw_p89 : lw_okq (⟨"RulerWord$Acts", "takeBack", "(LRulerWord$Course;)Z"⟩, 3) := ⟨⟨by decide +kernel, by decide +kernel⟩, List.mem_of_getElem? (i := 249) (by decide +kernel), List.mem_of_getElem? (i := 1055) (by decide +kernel), List.mem_of_getElem? (i := 1056) (by decide +kernel)⟩
theorem lw_p90 : lw_okq (⟨"RulerWord", "mostWary", "()I"⟩, 18) := ⟨⟨by decide +kernel, by decide +kernel⟩, List.mem_of_getElem? (i := 26) (by decide +kernel), List.mem_of_getElem? (i := 1076) (by decide +kernel), List.mem_of_getElem? (i := 1077) (by decide +kernel)⟩
theorem lw_p91 : lw_okq (⟨"RulerWord", "mostSuspected", "()I"⟩, 18) := ⟨⟨by decide +kernel, by decide +kernel⟩, List.mem_of_getElem? (i := 26) (by decide +kernel), List.mem_of_getElem? (i := 1080) (by decide +kernel), List.mem_of_getElem? (i := 1081) (by decide +kernel)⟩
theorem lw_p92 : lw_okq (⟨"RulerWord", "phasesInDoubt", "()I"⟩, 18) := ⟨⟨by decide +kernel, by decide +kernel⟩, List.mem_of_getElem? (i := 26) (by decide +kernel), List.mem_of_getElem? (i := 1085) (by decide +kernel), List.mem_of_getElem? (i := 1086) (by decide +kernel)⟩
theorem lw_p93 : lw_okq (⟨"RulerWord", "changesOfTrueOnes", "()I"⟩, 18) := ⟨⟨by decide +kernel, by decide +kernel⟩, List.mem_of_getElem? (i := 26) (by decide +kernel), List.mem_of_getElem? (i := 1089) (by decide +kernel), List.mem_of_getElem? (i := 1090) (by decide +kernel)⟩
theorem lw_p94 : lw_okq (⟨"RulerWord", "mostObedientPhase", "()I"⟩, 18) := ⟨⟨by decide +kernel, by decide +kernel⟩, List.mem_of_getElem? (i := 26) (by decide +kernel), List.mem_of_getElem? (i := 1093) (by decide +kernel), List.mem_of_getElem? (i := 1094) (by decide +kernel)⟩
theorem lw_p95 : lw_okq (⟨"java/lang/Throwable", "fillInStackTrace", "(I)Ljava/lang/Throwable;"⟩, 6) := ⟨⟨by decide +kernel, by decide +kernel⟩, List.mem_of_getElem? (i := 1145) (by decide +kernel), List.mem_of_getElem? (i := 1143) (by decide +kernel), List.mem_of_getElem? (i := 1144) (by decide +kernel)⟩
def lw_privs_6 : List (MethodName × Nat) := [(⟨"RulerWord", "writeBrokenRound", "(III)V"⟩, 18), (⟨"RulerWord", "freeBefore", "(II)I"⟩, 18), (⟨"RulerWord$Tape", "writeNumber", "(Ljava/lang/String;I)V"⟩, 5), (⟨"RulerWord$Tape", "write", "(Ljava/lang/String;)V"⟩, 5), (⟨"RulerWord", "byteOfText", "(I)I"⟩, 18), (⟨"RulerWord", "ruledIn", "(III)I"⟩, 18), (⟨"RulerWord$Course", "crossedIn", "(LRulerWord$Council;I)I"⟩, 18), (⟨"RulerWord", "reachedByRuler", "(II)I"⟩, 18), (⟨"RulerWord", "playTrial", "(LRulerWord$Council;LRulerWord$Voice;J)V"⟩, 18), (⟨"RulerWord$Acts", "takeBack", "(LRulerWord$Course;)Z"⟩, 3), (⟨"RulerWord", "mostWary", "()I"⟩, 18), (⟨"RulerWord", "mostSuspected", "()I"⟩, 18), (⟨"RulerWord", "phasesInDoubt", "()I"⟩, 18), (⟨"RulerWord", "changesOfTrueOnes", "()I"⟩, 18), (⟨"RulerWord", "mostObedientPhase", "()I"⟩, 18), (⟨"java/lang/Throwable", "fillInStackTrace", "(I)Ljava/lang/Throwable;"⟩, 6)]
theorem lw_r6 : ∀ q ∈ lw_privs_6, lw_okq q := List.forall_mem_cons.mpr ⟨lw_p80, List.forall_mem_cons.mpr ⟨lw_p81, List.forall_mem_cons.mpr ⟨lw_p82, List.forall_mem_cons.mpr ⟨lw_p83, List.forall_mem_cons.mpr ⟨lw_p84, List.forall_mem_cons.mpr ⟨lw_p85, List.forall_mem_cons.mpr ⟨lw_p86, List.forall_mem_cons.mpr ⟨lw_p87, List.forall_mem_cons.mpr ⟨lw_p88, List.forall_mem_cons.mpr ⟨lw_p89, List.forall_mem_cons.mpr ⟨lw_p90, List.forall_mem_cons.mpr ⟨lw_p91, List.forall_mem_cons.mpr ⟨lw_p92, List.forall_mem_cons.mpr ⟨lw_p93, List.forall_mem_cons.mpr ⟨lw_p94, List.forall_mem_cons.mpr ⟨lw_p95, fun _ h => absurd h List.not_mem_nil⟩⟩⟩⟩⟩⟩⟩⟩⟩⟩⟩⟩⟩⟩⟩⟩
theorem lw_p96 : lw_okq (⟨"RulerWord$Plan", "part", "(II)I"⟩, 2) := ⟨⟨by decide +kernel, by decide +kernel⟩, List.mem_of_getElem? (i := 108) (by decide +kernel), List.mem_of_getElem? (i := 1170) (by decide +kernel), List.mem_of_getElem? (i := 1171) (by decide +kernel)⟩
theorem lw_p97 : lw_okq (⟨"RulerWordModel", "brings", "(I)V"⟩, 56) := ⟨⟨by decide +kernel, by decide +kernel⟩, List.mem_of_getElem? (i := 1174) (by decide +kernel), List.mem_of_getElem? (i := 1362) (by decide +kernel), List.mem_of_getElem? (i := 1363) (by decide +kernel)⟩
theorem lw_p98 : lw_okq (⟨"RulerWordModel", "readsCouncil", "()I"⟩, 56) := ⟨⟨by decide +kernel, by decide +kernel⟩, List.mem_of_getElem? (i := 1174) (by decide +kernel), List.mem_of_getElem? (i := 1374) (by decide +kernel), List.mem_of_getElem? (i := 1375) (by decide +kernel)⟩
theorem lw_p99 : lw_okq (⟨"RulerWordModel", "look", "()I"⟩, 56) := ⟨⟨by decide +kernel, by decide +kernel⟩, List.mem_of_getElem? (i := 1174) (by decide +kernel), List.mem_of_getElem? (i := 1378) (by decide +kernel), List.mem_of_getElem? (i := 1379) (by decide +kernel)⟩
theorem lw_p100 : lw_okq (⟨"RulerWordModel", "here", "()I"⟩, 56) := ⟨⟨by decide +kernel, by decide +kernel⟩, List.mem_of_getElem? (i := 1174) (by decide +kernel), List.mem_of_getElem? (i := 1382) (by decide +kernel), List.mem_of_getElem? (i := 1383) (by decide +kernel)⟩
theorem lw_p101 : lw_okq (⟨"RulerWordModel", "takes", "(Ljava/lang/String;)Z"⟩, 56) := ⟨⟨by decide +kernel, by decide +kernel⟩, List.mem_of_getElem? (i := 1174) (by decide +kernel), List.mem_of_getElem? (i := 1387) (by decide +kernel), List.mem_of_getElem? (i := 1388) (by decide +kernel)⟩
theorem lw_p102 : lw_okq (⟨"RulerWordModel", "fails", "(I)V"⟩, 56) := ⟨⟨by decide +kernel, by decide +kernel⟩, List.mem_of_getElem? (i := 1174) (by decide +kernel), List.mem_of_getElem? (i := 1394) (by decide +kernel), List.mem_of_getElem? (i := 1395) (by decide +kernel)⟩
theorem lw_p103 : lw_okq (⟨"RulerWordModel", "piece", "()V"⟩, 56) := ⟨⟨by decide +kernel, by decide +kernel⟩, List.mem_of_getElem? (i := 1174) (by decide +kernel), List.mem_of_getElem? (i := 1398) (by decide +kernel), List.mem_of_getElem? (i := 1399) (by decide +kernel)⟩
theorem lw_p104 : lw_okq (⟨"RulerWordModel", "pieceHere", "()I"⟩, 56) := ⟨⟨by decide +kernel, by decide +kernel⟩, List.mem_of_getElem? (i := 1174) (by decide +kernel), List.mem_of_getElem? (i := 1402) (by decide +kernel), List.mem_of_getElem? (i := 1403) (by decide +kernel)⟩
theorem lw_p105 : lw_okq (⟨"RulerWordModel", "digit", "(II)I"⟩, 56) := ⟨⟨by decide +kernel, by decide +kernel⟩, List.mem_of_getElem? (i := 1174) (by decide +kernel), List.mem_of_getElem? (i := 1415) (by decide +kernel), List.mem_of_getElem? (i := 1416) (by decide +kernel)⟩
theorem lw_p106 : lw_okq (⟨"RulerWordModel", "digits", "()V"⟩, 56) := ⟨⟨by decide +kernel, by decide +kernel⟩, List.mem_of_getElem? (i := 1174) (by decide +kernel), List.mem_of_getElem? (i := 1419) (by decide +kernel), List.mem_of_getElem? (i := 1420) (by decide +kernel)⟩
theorem lw_p107 : lw_okq (⟨"RulerWordModel", "digitAt", "(I)I"⟩, 56) := ⟨⟨by decide +kernel, by decide +kernel⟩, List.mem_of_getElem? (i := 1174) (by decide +kernel), List.mem_of_getElem? (i := 1426) (by decide +kernel), List.mem_of_getElem? (i := 1427) (by decide +kernel)⟩
theorem lw_p108 : lw_okq (⟨"RulerWordModel", "starts", "()V"⟩, 56) := ⟨⟨by decide +kernel, by decide +kernel⟩, List.mem_of_getElem? (i := 1174) (by decide +kernel), List.mem_of_getElem? (i := 1433) (by decide +kernel), List.mem_of_getElem? (i := 1434) (by decide +kernel)⟩
theorem lw_p109 : lw_okq (⟨"RulerWordModel", "liars", "()V"⟩, 56) := ⟨⟨by decide +kernel, by decide +kernel⟩, List.mem_of_getElem? (i := 1174) (by decide +kernel), List.mem_of_getElem? (i := 1437) (by decide +kernel), List.mem_of_getElem? (i := 1438) (by decide +kernel)⟩
theorem lw_p110 : lw_okq (⟨"RulerWordModel", "readsPlan", "()I"⟩, 56) := ⟨⟨by decide +kernel, by decide +kernel⟩, List.mem_of_getElem? (i := 1174) (by decide +kernel), List.mem_of_getElem? (i := 1441) (by decide +kernel), List.mem_of_getElem? (i := 1442) (by decide +kernel)⟩
theorem lw_p111 : lw_okq (⟨"RulerWordModel", "planLine", "()V"⟩, 56) := ⟨⟨by decide +kernel, by decide +kernel⟩, List.mem_of_getElem? (i := 1174) (by decide +kernel), List.mem_of_getElem? (i := 1445) (by decide +kernel), List.mem_of_getElem? (i := 1446) (by decide +kernel)⟩
def lw_privs_7 : List (MethodName × Nat) := [(⟨"RulerWord$Plan", "part", "(II)I"⟩, 2), (⟨"RulerWordModel", "brings", "(I)V"⟩, 56), (⟨"RulerWordModel", "readsCouncil", "()I"⟩, 56), (⟨"RulerWordModel", "look", "()I"⟩, 56), (⟨"RulerWordModel", "here", "()I"⟩, 56), (⟨"RulerWordModel", "takes", "(Ljava/lang/String;)Z"⟩, 56), (⟨"RulerWordModel", "fails", "(I)V"⟩, 56), (⟨"RulerWordModel", "piece", "()V"⟩, 56), (⟨"RulerWordModel", "pieceHere", "()I"⟩, 56), (⟨"RulerWordModel", "digit", "(II)I"⟩, 56), (⟨"RulerWordModel", "digits", "()V"⟩, 56), (⟨"RulerWordModel", "digitAt", "(I)I"⟩, 56), (⟨"RulerWordModel", "starts", "()V"⟩, 56), (⟨"RulerWordModel", "liars", "()V"⟩, 56), (⟨"RulerWordModel", "readsPlan", "()I"⟩, 56), (⟨"RulerWordModel", "planLine", "()V"⟩, 56)]
theorem lw_r7 : ∀ q ∈ lw_privs_7, lw_okq q := List.forall_mem_cons.mpr ⟨lw_p96, List.forall_mem_cons.mpr ⟨lw_p97, List.forall_mem_cons.mpr ⟨lw_p98, List.forall_mem_cons.mpr ⟨lw_p99, List.forall_mem_cons.mpr ⟨lw_p100, List.forall_mem_cons.mpr ⟨lw_p101, List.forall_mem_cons.mpr ⟨lw_p102, List.forall_mem_cons.mpr ⟨lw_p103, List.forall_mem_cons.mpr ⟨lw_p104, List.forall_mem_cons.mpr ⟨lw_p105, List.forall_mem_cons.mpr ⟨lw_p106, List.forall_mem_cons.mpr ⟨lw_p107, List.forall_mem_cons.mpr ⟨lw_p108, List.forall_mem_cons.mpr ⟨lw_p109, List.forall_mem_cons.mpr ⟨lw_p110, List.forall_mem_cons.mpr ⟨lw_p111, fun _ h => absurd h List.not_mem_nil⟩⟩⟩⟩⟩⟩⟩⟩⟩⟩⟩⟩⟩⟩⟩⟩
theorem lw_p112 : lw_okq (⟨"RulerWordModel", "begins", "()V"⟩, 56) := ⟨⟨by decide +kernel, by decide +kernel⟩, List.mem_of_getElem? (i := 1174) (by decide +kernel), List.mem_of_getElem? (i := 1461) (by decide +kernel), List.mem_of_getElem? (i := 1462) (by decide +kernel)⟩
theorem lw_p113 : lw_okq (⟨"RulerWordModel", "startsAnew", "()V"⟩, 56) := ⟨⟨by decide +kernel, by decide +kernel⟩, List.mem_of_getElem? (i := 1174) (by decide +kernel), List.mem_of_getElem? (i := 1465) (by decide +kernel), List.mem_of_getElem? (i := 1466) (by decide +kernel)⟩
theorem lw_p114 : lw_okq (⟨"RulerWordModel", "laysDown", "()V"⟩, 56) := ⟨⟨by decide +kernel, by decide +kernel⟩, List.mem_of_getElem? (i := 1174) (by decide +kernel), List.mem_of_getElem? (i := 1469) (by decide +kernel), List.mem_of_getElem? (i := 1470) (by decide +kernel)⟩
theorem lw_p115 : lw_okq (⟨"RulerWordModel", "inAll", "()I"⟩, 56) := ⟨⟨by decide +kernel, by decide +kernel⟩, List.mem_of_getElem? (i := 1174) (by decide +kernel), List.mem_of_getElem? (i := 1481) (by decide +kernel), List.mem_of_getElem? (i := 1482) (by decide +kernel)⟩
theorem lw_p116 : lw_okq (⟨"RulerWordModel", "each", "()I"⟩, 56) := ⟨⟨by decide +kernel, by decide +kernel⟩, List.mem_of_getElem? (i := 1174) (by decide +kernel), List.mem_of_getElem? (i := 1485) (by decide +kernel), List.mem_of_getElem? (i := 1486) (by decide +kernel)⟩
theorem lw_p117 : lw_okq (⟨"RulerWordModel", "roundNow", "()V"⟩, 56) := ⟨⟨by decide +kernel, by decide +kernel⟩, List.mem_of_getElem? (i := 1174) (by decide +kernel), List.mem_of_getElem? (i := 1489) (by decide +kernel), List.mem_of_getElem? (i := 1490) (by decide +kernel)⟩
theorem lw_p118 : lw_okq (⟨"RulerWordModel", "keeps", "()V"⟩, 56) := ⟨⟨by decide +kernel, by decide +kernel⟩, List.mem_of_getElem? (i := 1174) (by decide +kernel), List.mem_of_getElem? (i := 1493) (by decide +kernel), List.mem_of_getElem? (i := 1494) (by decide +kernel)⟩
theorem lw_p119 : lw_okq (⟨"RulerWordModel", "takesUp", "()V"⟩, 56) := ⟨⟨by decide +kernel, by decide +kernel⟩, List.mem_of_getElem? (i := 1174) (by decide +kernel), List.mem_of_getElem? (i := 1497) (by decide +kernel), List.mem_of_getElem? (i := 1498) (by decide +kernel)⟩
theorem lw_p120 : lw_okq (⟨"RulerWordModel", "rounds", "()V"⟩, 56) := ⟨⟨by decide +kernel, by decide +kernel⟩, List.mem_of_getElem? (i := 1174) (by decide +kernel), List.mem_of_getElem? (i := 1501) (by decide +kernel), List.mem_of_getElem? (i := 1502) (by decide +kernel)⟩
theorem lw_p121 : lw_okq (⟨"RulerWordModel", "sends", "(II)V"⟩, 56) := ⟨⟨by decide +kernel, by decide +kernel⟩, List.mem_of_getElem? (i := 1174) (by decide +kernel), List.mem_of_getElem? (i := 1505) (by decide +kernel), List.mem_of_getElem? (i := 1506) (by decide +kernel)⟩
theorem lw_p122 : lw_okq (⟨"RulerWordModel", "letterOf", "(IIIII)I"⟩, 56) := ⟨⟨by decide +kernel, by decide +kernel⟩, List.mem_of_getElem? (i := 1174) (by decide +kernel), List.mem_of_getElem? (i := 1509) (by decide +kernel), List.mem_of_getElem? (i := 1510) (by decide +kernel)⟩
theorem lw_p123 : lw_okq (⟨"RulerWordModel", "isLiar", "(I)Z"⟩, 56) := ⟨⟨by decide +kernel, by decide +kernel⟩, List.mem_of_getElem? (i := 1174) (by decide +kernel), List.mem_of_getElem? (i := 1513) (by decide +kernel), List.mem_of_getElem? (i := 1514) (by decide +kernel)⟩
theorem lw_p124 : lw_okq (⟨"RulerWordModel", "byPlan", "(IIIII)I"⟩, 56) := ⟨⟨by decide +kernel, by decide +kernel⟩, List.mem_of_getElem? (i := 1174) (by decide +kernel), List.mem_of_getElem? (i := 1517) (by decide +kernel), List.mem_of_getElem? (i := 1518) (by decide +kernel)⟩
theorem lw_p125 : lw_okq (⟨"RulerWordModel", "draw", "()I"⟩, 56) := ⟨⟨by decide +kernel, by decide +kernel⟩, List.mem_of_getElem? (i := 1174) (by decide +kernel), List.mem_of_getElem? (i := 1524) (by decide +kernel), List.mem_of_getElem? (i := 1525) (by decide +kernel)⟩
theorem lw_p126 : lw_okq (⟨"RulerWordModel", "hearsAll", "(I)V"⟩, 56) := ⟨⟨by decide +kernel, by decide +kernel⟩, List.mem_of_getElem? (i := 1174) (by decide +kernel), List.mem_of_getElem? (i := 1531) (by decide +kernel), List.mem_of_getElem? (i := 1532) (by decide +kernel)⟩
theorem lw_p127 : lw_okq (⟨"RulerWordModel", "countOf", "(II)I"⟩, 56) := ⟨⟨by decide +kernel, by decide +kernel⟩, List.mem_of_getElem? (i := 1174) (by decide +kernel), List.mem_of_getElem? (i := 1535) (by decide +kernel), List.mem_of_getElem? (i := 1536) (by decide +kernel)⟩
def lw_privs_8 : List (MethodName × Nat) := [(⟨"RulerWordModel", "begins", "()V"⟩, 56), (⟨"RulerWordModel", "startsAnew", "()V"⟩, 56), (⟨"RulerWordModel", "laysDown", "()V"⟩, 56), (⟨"RulerWordModel", "inAll", "()I"⟩, 56), (⟨"RulerWordModel", "each", "()I"⟩, 56), (⟨"RulerWordModel", "roundNow", "()V"⟩, 56), (⟨"RulerWordModel", "keeps", "()V"⟩, 56), (⟨"RulerWordModel", "takesUp", "()V"⟩, 56), (⟨"RulerWordModel", "rounds", "()V"⟩, 56), (⟨"RulerWordModel", "sends", "(II)V"⟩, 56), (⟨"RulerWordModel", "letterOf", "(IIIII)I"⟩, 56), (⟨"RulerWordModel", "isLiar", "(I)Z"⟩, 56), (⟨"RulerWordModel", "byPlan", "(IIIII)I"⟩, 56), (⟨"RulerWordModel", "draw", "()I"⟩, 56), (⟨"RulerWordModel", "hearsAll", "(I)V"⟩, 56), (⟨"RulerWordModel", "countOf", "(II)I"⟩, 56)]
theorem lw_r8 : ∀ q ∈ lw_privs_8, lw_okq q := List.forall_mem_cons.mpr ⟨lw_p112, List.forall_mem_cons.mpr ⟨lw_p113, List.forall_mem_cons.mpr ⟨lw_p114, List.forall_mem_cons.mpr ⟨lw_p115, List.forall_mem_cons.mpr ⟨lw_p116, List.forall_mem_cons.mpr ⟨lw_p117, List.forall_mem_cons.mpr ⟨lw_p118, List.forall_mem_cons.mpr ⟨lw_p119, List.forall_mem_cons.mpr ⟨lw_p120, List.forall_mem_cons.mpr ⟨lw_p121, List.forall_mem_cons.mpr ⟨lw_p122, List.forall_mem_cons.mpr ⟨lw_p123, List.forall_mem_cons.mpr ⟨lw_p124, List.forall_mem_cons.mpr ⟨lw_p125, List.forall_mem_cons.mpr ⟨lw_p126, List.forall_mem_cons.mpr ⟨lw_p127, fun _ h => absurd h List.not_mem_nil⟩⟩⟩⟩⟩⟩⟩⟩⟩⟩⟩⟩⟩⟩⟩⟩
theorem lw_p128 : lw_okq (⟨"RulerWordModel", "hearsRuler", "(II)V"⟩, 56) := ⟨⟨by decide +kernel, by decide +kernel⟩, List.mem_of_getElem? (i := 1174) (by decide +kernel), List.mem_of_getElem? (i := 1540) (by decide +kernel), List.mem_of_getElem? (i := 1541) (by decide +kernel)⟩
theorem lw_p129 : lw_okq (⟨"RulerWordModel", "hearsOffers", "(I)V"⟩, 56) := ⟨⟨by decide +kernel, by decide +kernel⟩, List.mem_of_getElem? (i := 1174) (by decide +kernel), List.mem_of_getElem? (i := 1544) (by decide +kernel), List.mem_of_getElem? (i := 1545) (by decide +kernel)⟩
theorem lw_p130 : lw_okq (⟨"RulerWordModel", "refuse", "(I)I"⟩, 56) := ⟨⟨by decide +kernel, by decide +kernel⟩, List.mem_of_getElem? (i := 1174) (by decide +kernel), List.mem_of_getElem? (i := 1559) (by decide +kernel), List.mem_of_getElem? (i := 1560) (by decide +kernel)⟩
theorem lw_p131 : lw_okq (⟨"RulerWordModel", "isRound", "(II)Z"⟩, 56) := ⟨⟨by decide +kernel, by decide +kernel⟩, List.mem_of_getElem? (i := 1174) (by decide +kernel), List.mem_of_getElem? (i := 1563) (by decide +kernel), List.mem_of_getElem? (i := 1564) (by decide +kernel)⟩
theorem lw_p132 : lw_okq (⟨"RulerWordModel", "isPeer", "(I)Z"⟩, 56) := ⟨⟨by decide +kernel, by decide +kernel⟩, List.mem_of_getElem? (i := 1174) (by decide +kernel), List.mem_of_getElem? (i := 1567) (by decide +kernel), List.mem_of_getElem? (i := 1568) (by decide +kernel)⟩
theorem lw_p133 : lw_okq (⟨"RulerWordModel", "over", "()I"⟩, 56) := ⟨⟨by decide +kernel, by decide +kernel⟩, List.mem_of_getElem? (i := 1174) (by decide +kernel), List.mem_of_getElem? (i := 1618) (by decide +kernel), List.mem_of_getElem? (i := 1619) (by decide +kernel)⟩
theorem lw_p134 : lw_okq (⟨"RulerWordModel", "areAgreedBehind", "(I)Z"⟩, 56) := ⟨⟨by decide +kernel, by decide +kernel⟩, List.mem_of_getElem? (i := 1174) (by decide +kernel), List.mem_of_getElem? (i := 1627) (by decide +kernel), List.mem_of_getElem? (i := 1628) (by decide +kernel)⟩
theorem lw_p135 : lw_okq (⟨"RulerWordModel", "isTrue", "(I)Z"⟩, 56) := ⟨⟨by decide +kernel, by decide +kernel⟩, List.mem_of_getElem? (i := 1174) (by decide +kernel), List.mem_of_getElem? (i := 1631) (by decide +kernel), List.mem_of_getElem? (i := 1632) (by decide +kernel)⟩
theorem lw_p136 : lw_okq (⟨"RulerWordModel", "heldBehind", "(II)I"⟩, 56) := ⟨⟨by decide +kernel, by decide +kernel⟩, List.mem_of_getElem? (i := 1174) (by decide +kernel), List.mem_of_getElem? (i := 1635) (by decide +kernel), List.mem_of_getElem? (i := 1636) (by decide +kernel)⟩
theorem lw_p137 : lw_okq (⟨"RulerWordModel", "trueOnes", "(I)I"⟩, 56) := ⟨⟨by decide +kernel, by decide +kernel⟩, List.mem_of_getElem? (i := 1174) (by decide +kernel), List.mem_of_getElem? (i := 1643) (by decide +kernel), List.mem_of_getElem? (i := 1644) (by decide +kernel)⟩
theorem lw_p138 : lw_okq (⟨"RulerWordModel", "isSomeStart", "(I)Z"⟩, 56) := ⟨⟨by decide +kernel, by decide +kernel⟩, List.mem_of_getElem? (i := 1174) (by decide +kernel), List.mem_of_getElem? (i := 1647) (by decide +kernel), List.mem_of_getElem? (i := 1648) (by decide +kernel)⟩
theorem lw_p139 : lw_okq (⟨"RulerWordModel", "foretold", "(I)I"⟩, 56) := ⟨⟨by decide +kernel, by decide +kernel⟩, List.mem_of_getElem? (i := 1174) (by decide +kernel), List.mem_of_getElem? (i := 1655) (by decide +kernel), List.mem_of_getElem? (i := 1656) (by decide +kernel)⟩
theorem lw_p140 : lw_okq (⟨"RulerWordModel", "freeIn", "(I)I"⟩, 56) := ⟨⟨by decide +kernel, by decide +kernel⟩, List.mem_of_getElem? (i := 1174) (by decide +kernel), List.mem_of_getElem? (i := 1672) (by decide +kernel), List.mem_of_getElem? (i := 1673) (by decide +kernel)⟩
theorem lw_p141 : lw_okq (⟨"RulerWordModel", "canSearch", "()Z"⟩, 56) := ⟨⟨by decide +kernel, by decide +kernel⟩, List.mem_of_getElem? (i := 1174) (by decide +kernel), List.mem_of_getElem? (i := 1683) (by decide +kernel), List.mem_of_getElem? (i := 1684) (by decide +kernel)⟩
theorem lw_p142 : lw_okq (⟨"RulerWordModel", "leastBroken", "()I"⟩, 56) := ⟨⟨by decide +kernel, by decide +kernel⟩, List.mem_of_getElem? (i := 1174) (by decide +kernel), List.mem_of_getElem? (i := 1687) (by decide +kernel), List.mem_of_getElem? (i := 1688) (by decide +kernel)⟩
theorem lw_p143 : lw_okq (⟨"RulerWordModel", "runsWhole", "(II)V"⟩, 56) := ⟨⟨by decide +kernel, by decide +kernel⟩, List.mem_of_getElem? (i := 1174) (by decide +kernel), List.mem_of_getElem? (i := 1691) (by decide +kernel), List.mem_of_getElem? (i := 1692) (by decide +kernel)⟩
def lw_privs_9 : List (MethodName × Nat) := [(⟨"RulerWordModel", "hearsRuler", "(II)V"⟩, 56), (⟨"RulerWordModel", "hearsOffers", "(I)V"⟩, 56), (⟨"RulerWordModel", "refuse", "(I)I"⟩, 56), (⟨"RulerWordModel", "isRound", "(II)Z"⟩, 56), (⟨"RulerWordModel", "isPeer", "(I)Z"⟩, 56), (⟨"RulerWordModel", "over", "()I"⟩, 56), (⟨"RulerWordModel", "areAgreedBehind", "(I)Z"⟩, 56), (⟨"RulerWordModel", "isTrue", "(I)Z"⟩, 56), (⟨"RulerWordModel", "heldBehind", "(II)I"⟩, 56), (⟨"RulerWordModel", "trueOnes", "(I)I"⟩, 56), (⟨"RulerWordModel", "isSomeStart", "(I)Z"⟩, 56), (⟨"RulerWordModel", "foretold", "(I)I"⟩, 56), (⟨"RulerWordModel", "freeIn", "(I)I"⟩, 56), (⟨"RulerWordModel", "canSearch", "()Z"⟩, 56), (⟨"RulerWordModel", "leastBroken", "()I"⟩, 56), (⟨"RulerWordModel", "runsWhole", "(II)V"⟩, 56)]
theorem lw_r9 : ∀ q ∈ lw_privs_9, lw_okq q := List.forall_mem_cons.mpr ⟨lw_p128, List.forall_mem_cons.mpr ⟨lw_p129, List.forall_mem_cons.mpr ⟨lw_p130, List.forall_mem_cons.mpr ⟨lw_p131, List.forall_mem_cons.mpr ⟨lw_p132, List.forall_mem_cons.mpr ⟨lw_p133, List.forall_mem_cons.mpr ⟨lw_p134, List.forall_mem_cons.mpr ⟨lw_p135, List.forall_mem_cons.mpr ⟨lw_p136, List.forall_mem_cons.mpr ⟨lw_p137, List.forall_mem_cons.mpr ⟨lw_p138, List.forall_mem_cons.mpr ⟨lw_p139, List.forall_mem_cons.mpr ⟨lw_p140, List.forall_mem_cons.mpr ⟨lw_p141, List.forall_mem_cons.mpr ⟨lw_p142, List.forall_mem_cons.mpr ⟨lw_p143, fun _ h => absurd h List.not_mem_nil⟩⟩⟩⟩⟩⟩⟩⟩⟩⟩⟩⟩⟩⟩⟩⟩
theorem lw_p144 : lw_okq (⟨"RulerWordModel", "areAgreed", "()Z"⟩, 56) := ⟨⟨by decide +kernel, by decide +kernel⟩, List.mem_of_getElem? (i := 1174) (by decide +kernel), List.mem_of_getElem? (i := 1695) (by decide +kernel), List.mem_of_getElem? (i := 1696) (by decide +kernel)⟩
theorem lw_p145 : lw_okq (⟨"RulerWordModel", "findsStarts", "()V"⟩, 56) := ⟨⟨by decide +kernel, by decide +kernel⟩, List.mem_of_getElem? (i := 1174) (by decide +kernel), List.mem_of_getElem? (i := 1703) (by decide +kernel), List.mem_of_getElem? (i := 1704) (by decide +kernel)⟩
theorem lw_p146 : lw_okq (⟨"RulerWordModel", "breaksSome", "()Z"⟩, 56) := ⟨⟨by decide +kernel, by decide +kernel⟩, List.mem_of_getElem? (i := 1174) (by decide +kernel), List.mem_of_getElem? (i := 1711) (by decide +kernel), List.mem_of_getElem? (i := 1712) (by decide +kernel)⟩
theorem lw_p147 : lw_okq (⟨"RulerWordModel", "writesPlan", "(I)V"⟩, 56) := ⟨⟨by decide +kernel, by decide +kernel⟩, List.mem_of_getElem? (i := 1174) (by decide +kernel), List.mem_of_getElem? (i := 1719) (by decide +kernel), List.mem_of_getElem? (i := 1720) (by decide +kernel)⟩
theorem lw_p148 : lw_okq (⟨"RulerWordModel", "writesWord", "(Ljava/lang/String;)V"⟩, 56) := ⟨⟨by decide +kernel, by decide +kernel⟩, List.mem_of_getElem? (i := 1174) (by decide +kernel), List.mem_of_getElem? (i := 1724) (by decide +kernel), List.mem_of_getElem? (i := 1725) (by decide +kernel)⟩
theorem lw_p149 : lw_okq (⟨"RulerWordModel", "writesDigit", "(I)V"⟩, 56) := ⟨⟨by decide +kernel, by decide +kernel⟩, List.mem_of_getElem? (i := 1174) (by decide +kernel), List.mem_of_getElem? (i := 1729) (by decide +kernel), List.mem_of_getElem? (i := 1730) (by decide +kernel)⟩
theorem lw_p150 : lw_okq (⟨"RulerWordModel", "trueOf", "(III)I"⟩, 56) := ⟨⟨by decide +kernel, by decide +kernel⟩, List.mem_of_getElem? (i := 1174) (by decide +kernel), List.mem_of_getElem? (i := 1745) (by decide +kernel), List.mem_of_getElem? (i := 1746) (by decide +kernel)⟩
theorem lw_p151 : lw_okq (⟨"RulerWordModel", "holders", "()I"⟩, 56) := ⟨⟨by decide +kernel, by decide +kernel⟩, List.mem_of_getElem? (i := 1174) (by decide +kernel), List.mem_of_getElem? (i := 1761) (by decide +kernel), List.mem_of_getElem? (i := 1762) (by decide +kernel)⟩
theorem lw_p152 : lw_okq (⟨"RulerWordModel", "showsWord", "(Ljava/lang/String;)V"⟩, 56) := ⟨⟨by decide +kernel, by decide +kernel⟩, List.mem_of_getElem? (i := 1174) (by decide +kernel), List.mem_of_getElem? (i := 1774) (by decide +kernel), List.mem_of_getElem? (i := 1775) (by decide +kernel)⟩
theorem lw_p153 : lw_okq (⟨"RulerWordModel", "shows", "(I)V"⟩, 56) := ⟨⟨by decide +kernel, by decide +kernel⟩, List.mem_of_getElem? (i := 1174) (by decide +kernel), List.mem_of_getElem? (i := 1778) (by decide +kernel), List.mem_of_getElem? (i := 1779) (by decide +kernel)⟩
theorem lw_p154 : lw_okq (⟨"RulerWordModel", "mostSuspecting", "(Z)I"⟩, 56) := ⟨⟨by decide +kernel, by decide +kernel⟩, List.mem_of_getElem? (i := 1174) (by decide +kernel), List.mem_of_getElem? (i := 1788) (by decide +kernel), List.mem_of_getElem? (i := 1789) (by decide +kernel)⟩
theorem lw_p155 : lw_okq (⟨"RulerWordModel", "changes", "()I"⟩, 56) := ⟨⟨by decide +kernel, by decide +kernel⟩, List.mem_of_getElem? (i := 1174) (by decide +kernel), List.mem_of_getElem? (i := 1792) (by decide +kernel), List.mem_of_getElem? (i := 1793) (by decide +kernel)⟩
def lw_privs_10 : List (MethodName × Nat) := [(⟨"RulerWordModel", "areAgreed", "()Z"⟩, 56), (⟨"RulerWordModel", "findsStarts", "()V"⟩, 56), (⟨"RulerWordModel", "breaksSome", "()Z"⟩, 56), (⟨"RulerWordModel", "writesPlan", "(I)V"⟩, 56), (⟨"RulerWordModel", "writesWord", "(Ljava/lang/String;)V"⟩, 56), (⟨"RulerWordModel", "writesDigit", "(I)V"⟩, 56), (⟨"RulerWordModel", "trueOf", "(III)I"⟩, 56), (⟨"RulerWordModel", "holders", "()I"⟩, 56), (⟨"RulerWordModel", "showsWord", "(Ljava/lang/String;)V"⟩, 56), (⟨"RulerWordModel", "shows", "(I)V"⟩, 56), (⟨"RulerWordModel", "mostSuspecting", "(Z)I"⟩, 56), (⟨"RulerWordModel", "changes", "()I"⟩, 56)]
theorem lw_r10 : ∀ q ∈ lw_privs_10, lw_okq q := List.forall_mem_cons.mpr ⟨lw_p144, List.forall_mem_cons.mpr ⟨lw_p145, List.forall_mem_cons.mpr ⟨lw_p146, List.forall_mem_cons.mpr ⟨lw_p147, List.forall_mem_cons.mpr ⟨lw_p148, List.forall_mem_cons.mpr ⟨lw_p149, List.forall_mem_cons.mpr ⟨lw_p150, List.forall_mem_cons.mpr ⟨lw_p151, List.forall_mem_cons.mpr ⟨lw_p152, List.forall_mem_cons.mpr ⟨lw_p153, List.forall_mem_cons.mpr ⟨lw_p154, List.forall_mem_cons.mpr ⟨lw_p155, fun _ h => absurd h List.not_mem_nil⟩⟩⟩⟩⟩⟩⟩⟩⟩⟩⟩⟩
def lw_privs : List (MethodName × Nat) := lw_privs_1 ++ (lw_privs_2 ++ (lw_privs_3 ++ (lw_privs_4 ++ (lw_privs_5 ++ (lw_privs_6 ++ (lw_privs_7 ++ (lw_privs_8 ++ (lw_privs_9 ++ (lw_privs_10)))))))))
def lw_tbl : List Cond := k2_sels lw_privs ++ tables_1
theorem lw_privs_ok : ∀ q ∈ lw_privs, lw_okq q := by
  show ∀ q ∈ lw_privs_1 ++ (lw_privs_2 ++ (lw_privs_3 ++ (lw_privs_4 ++ (lw_privs_5 ++ (lw_privs_6 ++ (lw_privs_7 ++ (lw_privs_8 ++ (lw_privs_9 ++ (lw_privs_10))))))))), lw_okq q
  exact List.forall_mem_append.mpr ⟨lw_r1, List.forall_mem_append.mpr ⟨lw_r2, List.forall_mem_append.mpr ⟨lw_r3, List.forall_mem_append.mpr ⟨lw_r4, List.forall_mem_append.mpr ⟨lw_r5, List.forall_mem_append.mpr ⟨lw_r6, List.forall_mem_append.mpr ⟨lw_r7, List.forall_mem_append.mpr ⟨lw_r8, List.forall_mem_append.mpr ⟨lw_r9, lw_r10⟩⟩⟩⟩⟩⟩⟩⟩⟩
end
section
def RX0 : String := "RulerWord$Acts"
def TX0 : u_T := fun k => match k with
  | 0 => ("RulerWord$Acts", "ahead", "[LRulerWord$Course;", true)
  | 1 => ("RulerWord$Acts", "newest", "I", false)
  | _ => ("RulerWord$Acts", "depth", "I", false)
def tyX0 : Nat → FieldType := fun k => match k with
  | 0 => .array (.object "RulerWord$Course")
  | 1 => .int
  | _ => .int
abbrev wsX00 : List Cond := u_ws RX0 TX0 3
theorem nmX0 : ∀ a, a < 3 → ∀ b, b < 3 → a ≠ b → (TX0 a).2.1 ≠ (TX0 b).2.1 := by decide +kernel
theorem tyX0_ok : ∀ k, k < 3 → parseFieldDescriptor (TX0 k).2.2.1 = some (tyX0 k) := by decide +kernel
abbrev cX0_init : ByteArray := prog_2_method_1_code
def yX0_init : MethodName := ⟨RX0, "<init>", "()V"⟩
abbrev cX0_keep : ByteArray := prog_2_method_2_code
def yX0_keep : MethodName := ⟨RX0, "keep", "(LRulerWord$Course;)V"⟩
abbrev cX0_takeBack : ByteArray := prog_2_method_3_code
def yX0_takeBack : MethodName := ⟨RX0, "takeBack", "(LRulerWord$Course;)Z"⟩
def RX1 : String := "RulerWord$Chance"
def TX1 : u_T := fun k => match k with
  | 0 => ("RulerWord$Voice", "phase", "I", false)
  | _ => ("RulerWord$Voice", "turn", "I", false)
def tyX1 : Nat → FieldType := fun k => match k with
  | 0 => .int
  | _ => .int
abbrev wsX10 : List Cond := u_ws RX1 TX1 2
theorem nmX1 : ∀ a, a < 2 → ∀ b, b < 2 → a ≠ b → (TX1 a).2.1 ≠ (TX1 b).2.1 := by decide +kernel
theorem tyX1_ok : ∀ k, k < 2 → parseFieldDescriptor (TX1 k).2.2.1 = some (tyX1 k) := by decide +kernel
abbrev cX1_init : ByteArray := prog_3_method_1_code
def yX1_init : MethodName := ⟨RX1, "<init>", "()V"⟩
abbrev cX1_choose : ByteArray := prog_3_method_2_code
def yX1_choose : MethodName := ⟨RX1, "choose", "(LRulerWord$Course;III)I"⟩
def RX2 : String := "RulerWord$Council"
def TX2 : u_T := fun k => match k with
  | 0 => ("RulerWord$Council", "form", "I", false)
  | 1 => ("RulerWord$Council", "size", "I", false)
  | 2 => ("RulerWord$Council", "bound", "I", false)
  | 3 => ("RulerWord$Council", "phases", "I", false)
  | 4 => ("RulerWord$Council", "starts", "I", false)
  | 5 => ("RulerWord$Council", "falses", "I", false)
  | 6 => ("RulerWord$Council", "skip", "Z", false)
  | _ => ("RulerWord$Council", "toldPieces", "I", false)
def tyX2 : Nat → FieldType := fun k => match k with
  | 0 => .int
  | 1 => .int
  | 2 => .int
  | 3 => .int
  | 4 => .int
  | 5 => .int
  | 6 => .boolean
  | _ => .int
abbrev wsX20 : List Cond := u_ws RX2 TX2 8
theorem nmX2 : ∀ a, a < 8 → ∀ b, b < 8 → a ≠ b → (TX2 a).2.1 ≠ (TX2 b).2.1 := by decide +kernel
theorem tyX2_ok : ∀ k, k < 8 → parseFieldDescriptor (TX2 k).2.2.1 = some (tyX2 k) := by decide +kernel
abbrev cX2_init : ByteArray := prog_4_method_1_code
def yX2_init : MethodName := ⟨RX2, "<init>", "()V"⟩
abbrev cX2_copy : ByteArray := prog_4_method_2_code
def yX2_copy : MethodName := ⟨RX2, "copy", "(LRulerWord$Council;)V"⟩
abbrev cX2_readFrom : ByteArray := prog_4_method_3_code
def yX2_readFrom : MethodName := ⟨RX2, "readFrom", "(LRulerWord$Tape;)I"⟩
abbrev cX2_clear : ByteArray := prog_4_method_4_code
def yX2_clear : MethodName := ⟨RX2, "clear", "()V"⟩
abbrev cX2_fillIn : ByteArray := prog_4_method_5_code
def yX2_fillIn : MethodName := ⟨RX2, "fillIn", "()V"⟩
abbrev cX2_isTold : ByteArray := prog_4_method_6_code
def yX2_isTold : MethodName := ⟨RX2, "isTold", "(I)Z"⟩
abbrev cX2_readPiece : ByteArray := prog_4_method_7_code
def yX2_readPiece : MethodName := ⟨RX2, "readPiece", "(LRulerWord$Tape;)Z"⟩
abbrev cX2_pieceOf : ByteArray := prog_4_method_8_code
def yX2_pieceOf : MethodName := ⟨RX2, "pieceOf", "(LRulerWord$Tape;)I"⟩
abbrev cX2_wordOf : ByteArray := prog_4_method_9_code
def yX2_wordOf : MethodName := ⟨RX2, "wordOf", "(I)Ljava/lang/String;"⟩
abbrev cX2_readStarts : ByteArray := prog_4_method_10_code
def yX2_readStarts : MethodName := ⟨RX2, "readStarts", "(LRulerWord$Tape;)Z"⟩
abbrev cX2_readFalses : ByteArray := prog_4_method_11_code
def yX2_readFalses : MethodName := ⟨RX2, "readFalses", "(LRulerWord$Tape;)Z"⟩
abbrev cX2_rounds : ByteArray := prog_4_method_12_code
def yX2_rounds : MethodName := ⟨RX2, "rounds", "()I"⟩
abbrev cX2_allRounds : ByteArray := prog_4_method_13_code
def yX2_allRounds : MethodName := ⟨RX2, "allRounds", "()I"⟩
abbrev cX2_phaseAt : ByteArray := prog_4_method_14_code
def yX2_phaseAt : MethodName := ⟨RX2, "phaseAt", "(I)I"⟩
abbrev cX2_turnAt : ByteArray := prog_4_method_15_code
def yX2_turnAt : MethodName := ⟨RX2, "turnAt", "(I)I"⟩
abbrev cX2_ruler : ByteArray := prog_4_method_16_code
def yX2_ruler : MethodName := ⟨RX2, "ruler", "(I)I"⟩
abbrev cX2_everybody : ByteArray := prog_4_method_17_code
def yX2_everybody : MethodName := ⟨RX2, "everybody", "()I"⟩
abbrev cX2_foretold : ByteArray := prog_4_method_18_code
def yX2_foretold : MethodName := ⟨RX2, "foretold", "()I"⟩
abbrev cX2_freeLetters : ByteArray := prog_4_method_19_code
def yX2_freeLetters : MethodName := ⟨RX2, "freeLetters", "(II)I"⟩
abbrev cX2_offer : ByteArray := prog_4_method_20_code
def yX2_offer : MethodName := ⟨RX2, "offer", "(II)I"⟩
abbrev cX2_view : ByteArray := prog_4_method_21_code
def yX2_view : MethodName := ⟨RX2, "view", "(II)I"⟩
def RX3 : String := "RulerWord$Course"
def TX3 : u_T := fun k => match k with
  | 0 => ("RulerWord$Course", "starts", "I", false)
  | 1 => ("RulerWord$Course", "falses", "I", false)
  | 2 => ("RulerWord$Course", "gone", "I", false)
  | 3 => ("RulerWord$Course", "holds", "I", false)
  | 4 => ("RulerWord$Course", "sent", "I", false)
  | 5 => ("RulerWord$Course", "sentByTrue", "I", false)
  | 6 => ("RulerWord$Course", "saidCount", "I", false)
  | 7 => ("RulerWord$Course", "suspects", "J", false)
  | 8 => ("RulerWord$Course", "draws", "J", false)
  | 9 => ("RulerWord$Course", "said", "[I", true)
  | 10 => ("RulerWord$Course", "rows", "[J", true)
  | 11 => ("RulerWord$Course", "ones", "[J", true)
  | 12 => ("RulerWord$Course", "nothings", "[J", true)
  | 13 => ("RulerWord$Course", "words", "[J", true)
  | 14 => ("RulerWord$Course", "behind", "[I", true)
  | 15 => ("RulerWord$Course", "firm", "[I", true)
  | 16 => ("RulerWord$Course", "took", "[I", true)
  | _ => ("RulerWord$Course", "sentIn", "[I", true)
def tyX3 : Nat → FieldType := fun k => match k with
  | 0 => .int
  | 1 => .int
  | 2 => .int
  | 3 => .int
  | 4 => .int
  | 5 => .int
  | 6 => .int
  | 7 => .long
  | 8 => .long
  | 9 => .array .int
  | 10 => .array .long
  | 11 => .array .long
  | 12 => .array .long
  | 13 => .array .long
  | 14 => .array .int
  | 15 => .array .int
  | 16 => .array .int
  | _ => .array .int
abbrev wsX30 : List Cond := u_ws RX3 TX3 18
theorem nmX3 : ∀ a, a < 18 → ∀ b, b < 18 → a ≠ b → (TX3 a).2.1 ≠ (TX3 b).2.1 := by decide +kernel
theorem tyX3_ok : ∀ k, k < 18 → parseFieldDescriptor (TX3 k).2.2.1 = some (tyX3 k) := by decide +kernel
abbrev cX3_init : ByteArray := prog_5_method_1_code
def yX3_init : MethodName := ⟨RX3, "<init>", "()V"⟩
abbrev cX3_begin : ByteArray := prog_5_method_2_code
def yX3_begin : MethodName := ⟨RX3, "begin", "(IIJ)V"⟩
abbrev cX3_copy : ByteArray := prog_5_method_3_code
def yX3_copy : MethodName := ⟨RX3, "copy", "(LRulerWord$Course;)V"⟩
abbrev cX3_placeOf : ByteArray := prog_5_method_4_code
def yX3_placeOf : MethodName := ⟨RX3, "placeOf", "(IIII)I"⟩
abbrev cX3_addSaid : ByteArray := prog_5_method_5_code
def yX3_addSaid : MethodName := ⟨RX3, "addSaid", "(IIIII)V"⟩
abbrev cX3_saidLetter : ByteArray := prog_5_method_6_code
def yX3_saidLetter : MethodName := ⟨RX3, "saidLetter", "(IIII)I"⟩
abbrev cX3_dropSaidByTrue : ByteArray := prog_5_method_7_code
def yX3_dropSaidByTrue : MethodName := ⟨RX3, "dropSaidByTrue", "()V"⟩
abbrev cX3_draw : ByteArray := prog_5_method_8_code
def yX3_draw : MethodName := ⟨RX3, "draw", "()I"⟩
abbrev cX3_play : ByteArray := prog_5_method_9_code
def yX3_play : MethodName := ⟨RX3, "play", "(LRulerWord$Council;LRulerWord$Voice;)V"⟩
abbrev cX3_send : ByteArray := prog_5_method_10_code
def yX3_send : MethodName := ⟨RX3, "send", "(LRulerWord$Council;LRulerWord$Voice;II)V"⟩
abbrev cX3_rowOf : ByteArray := prog_5_method_11_code
def yX3_rowOf : MethodName := ⟨RX3, "rowOf", "(LRulerWord$Council;LRulerWord$Voice;I)J"⟩
abbrev cX3_trueLetter : ByteArray := prog_5_method_12_code
def yX3_trueLetter : MethodName := ⟨RX3, "trueLetter", "(LRulerWord$Council;LRulerWord$Voice;I)I"⟩
abbrev cX3_reachedBy : ByteArray := prog_5_method_13_code
def yX3_reachedBy : MethodName := ⟨RX3, "reachedBy", "(JII)I"⟩
abbrev cX3_hearAll : ByteArray := prog_5_method_14_code
def yX3_hearAll : MethodName := ⟨RX3, "hearAll", "(LRulerWord$Council;II)V"⟩
abbrev cX3_takeView : ByteArray := prog_5_method_15_code
def yX3_takeView : MethodName := ⟨RX3, "takeView", "(LRulerWord$Council;III)V"⟩
abbrev cX3_hearRuler : ByteArray := prog_5_method_16_code
def yX3_hearRuler : MethodName := ⟨RX3, "hearRuler", "(LRulerWord$Council;II)V"⟩
abbrev cX3_trues : ByteArray := prog_5_method_17_code
def yX3_trues : MethodName := ⟨RX3, "trues", "(LRulerWord$Council;)I"⟩
abbrev cX3_letter : ByteArray := prog_5_method_18_code
def yX3_letter : MethodName := ⟨RX3, "letter", "(IIII)I"⟩
abbrev cX3_onesHeard : ByteArray := prog_5_method_19_code
def yX3_onesHeard : MethodName := ⟨RX3, "onesHeard", "(III)I"⟩
abbrev cX3_zerosHeard : ByteArray := prog_5_method_20_code
def yX3_zerosHeard : MethodName := ⟨RX3, "zerosHeard", "(LRulerWord$Council;III)I"⟩
abbrev cX3_waryOf : ByteArray := prog_5_method_21_code
def yX3_waryOf : MethodName := ⟨RX3, "waryOf", "(I)I"⟩
abbrev cX3_suspectedBy : ByteArray := prog_5_method_22_code
def yX3_suspectedBy : MethodName := ⟨RX3, "suspectedBy", "(I)I"⟩
abbrev cX3_alike : ByteArray := prog_5_method_23_code
def yX3_alike : MethodName := ⟨RX3, "alike", "(LRulerWord$Council;I)Z"⟩
abbrev cX3_agreedFrom : ByteArray := prog_5_method_24_code
def yX3_agreedFrom : MethodName := ⟨RX3, "agreedFrom", "(LRulerWord$Council;)I"⟩
abbrev cX3_crossedIn : ByteArray := prog_5_method_25_code
def yX3_crossedIn : MethodName := ⟨RX3, "crossedIn", "(LRulerWord$Council;I)I"⟩
def RX4 : String := "RulerWord$Free"
def TX4 : u_T := fun k => match k with
  | 0 => ("RulerWord$Voice", "phase", "I", false)
  | 1 => ("RulerWord$Voice", "turn", "I", false)
  | 2 => ("RulerWord$Free", "bits", "I", false)
  | _ => ("RulerWord$Free", "used", "I", false)
def tyX4 : Nat → FieldType := fun k => match k with
  | 0 => .int
  | 1 => .int
  | 2 => .int
  | _ => .int
abbrev wsX40 : List Cond := u_ws RX4 TX4 4
theorem nmX4 : ∀ a, a < 4 → ∀ b, b < 4 → a ≠ b → (TX4 a).2.1 ≠ (TX4 b).2.1 := by decide +kernel
theorem tyX4_ok : ∀ k, k < 4 → parseFieldDescriptor (TX4 k).2.2.1 = some (tyX4 k) := by decide +kernel
abbrev cX4_init : ByteArray := prog_6_method_1_code
def yX4_init : MethodName := ⟨RX4, "<init>", "()V"⟩
abbrev cX4_choose : ByteArray := prog_6_method_2_code
def yX4_choose : MethodName := ⟨RX4, "choose", "(LRulerWord$Course;III)I"⟩
def RX5 : String := "RulerWord$Plan"
def TX5 : u_T := fun k => match k with
  | 0 => ("RulerWord$Plan", "parts", "[I", true)
  | _ => ("RulerWord$Plan", "lines", "I", false)
def tyX5 : Nat → FieldType := fun k => match k with
  | 0 => .array .int
  | _ => .int
abbrev wsX50 : List Cond := u_ws RX5 TX5 2
theorem nmX5 : ∀ a, a < 2 → ∀ b, b < 2 → a ≠ b → (TX5 a).2.1 ≠ (TX5 b).2.1 := by decide +kernel
theorem tyX5_ok : ∀ k, k < 2 → parseFieldDescriptor (TX5 k).2.2.1 = some (tyX5 k) := by decide +kernel
abbrev cX5_init : ByteArray := prog_7_method_1_code
def yX5_init : MethodName := ⟨RX5, "<init>", "()V"⟩
abbrev cX5_copy : ByteArray := prog_7_method_2_code
def yX5_copy : MethodName := ⟨RX5, "copy", "(LRulerWord$Plan;)V"⟩
abbrev cX5_part : ByteArray := prog_7_method_3_code
def yX5_part : MethodName := ⟨RX5, "part", "(II)I"⟩
abbrev cX5_readFrom : ByteArray := prog_7_method_4_code
def yX5_readFrom : MethodName := ⟨RX5, "readFrom", "(LRulerWord$Tape;)I"⟩
abbrev cX5_readLine : ByteArray := prog_7_method_5_code
def yX5_readLine : MethodName := ⟨RX5, "readLine", "(LRulerWord$Tape;I)Z"⟩
abbrev cX5_wordOf : ByteArray := prog_7_method_6_code
def yX5_wordOf : MethodName := ⟨RX5, "wordOf", "(I)Ljava/lang/String;"⟩
abbrev cX5_greatestOf : ByteArray := prog_7_method_7_code
def yX5_greatestOf : MethodName := ⟨RX5, "greatestOf", "(I)I"⟩
abbrev cX5_actOf : ByteArray := prog_7_method_8_code
def yX5_actOf : MethodName := ⟨RX5, "actOf", "(LRulerWord$Tape;)I"⟩
abbrev cX5_actFor : ByteArray := prog_7_method_9_code
def yX5_actFor : MethodName := ⟨RX5, "actFor", "(IIII)I"⟩
def RX6 : String := "RulerWord$Planned"
def TX6 : u_T := fun k => match k with
  | 0 => ("RulerWord$Voice", "phase", "I", false)
  | 1 => ("RulerWord$Voice", "turn", "I", false)
  | _ => ("RulerWord$Planned", "plan", "LRulerWord$Plan;", true)
def tyX6 : Nat → FieldType := fun k => match k with
  | 0 => .int
  | 1 => .int
  | _ => .object "RulerWord$Plan"
abbrev wsX60 : List Cond := u_ws RX6 TX6 3
theorem nmX6 : ∀ a, a < 3 → ∀ b, b < 3 → a ≠ b → (TX6 a).2.1 ≠ (TX6 b).2.1 := by decide +kernel
theorem tyX6_ok : ∀ k, k < 3 → parseFieldDescriptor (TX6 k).2.2.1 = some (tyX6 k) := by decide +kernel
abbrev cX6_init : ByteArray := prog_8_method_1_code
def yX6_init : MethodName := ⟨RX6, "<init>", "()V"⟩
abbrev cX6_choose : ByteArray := prog_8_method_2_code
def yX6_choose : MethodName := ⟨RX6, "choose", "(LRulerWord$Course;III)I"⟩
def RX7 : String := "RulerWord$Search"
def TX7 : u_T := fun k => match k with
  | 0 => ("RulerWord$Search", "rules", "LRulerWord$Council;", true)
  | 1 => ("RulerWord$Search", "receivers", "[I", true)
  | 2 => ("RulerWord$Search", "freeAhead", "[I", true)
  | 3 => ("RulerWord$Search", "outcomes", "[I", true)
  | 4 => ("RulerWord$Search", "lies", "[I", true)
  | 5 => ("RulerWord$Search", "sound", "[J", true)
  | 6 => ("RulerWord$Search", "breaks", "I", false)
  | 7 => ("RulerWord$Search", "phases", "I", false)
  | 8 => ("RulerWord$Search", "falses", "I", false)
  | 9 => ("RulerWord$Search", "trues", "I", false)
  | 10 => ("RulerWord$Search", "many", "I", false)
  | 11 => ("RulerWord$Search", "liars", "I", false)
  | 12 => ("RulerWord$Search", "found", "I", false)
  | _ => ("RulerWord$Search", "anyWillDo", "Z", false)
def tyX7 : Nat → FieldType := fun k => match k with
  | 0 => .object "RulerWord$Council"
  | 1 => .array .int
  | 2 => .array .int
  | 3 => .array .int
  | 4 => .array .int
  | 5 => .array .long
  | 6 => .int
  | 7 => .int
  | 8 => .int
  | 9 => .int
  | 10 => .int
  | 11 => .int
  | 12 => .int
  | _ => .boolean
abbrev wsX70 : List Cond := u_ws RX7 TX7 14
theorem nmX7 : ∀ a, a < 14 → ∀ b, b < 14 → a ≠ b → (TX7 a).2.1 ≠ (TX7 b).2.1 := by decide +kernel
theorem tyX7_ok : ∀ k, k < 14 → parseFieldDescriptor (TX7 k).2.2.1 = some (tyX7 k) := by decide +kernel
abbrev cX7_init : ByteArray := prog_9_method_1_code
def yX7_init : MethodName := ⟨RX7, "<init>", "()V"⟩
abbrev cX7_prepare : ByteArray := prog_9_method_2_code
def yX7_prepare : MethodName := ⟨RX7, "prepare", "(LRulerWord$Council;II)V"⟩
abbrev cX7_least : ByteArray := prog_9_method_3_code
def yX7_least : MethodName := ⟨RX7, "least", "(I)I"⟩
abbrev cX7_isBroken : ByteArray := prog_9_method_4_code
def yX7_isBroken : MethodName := ⟨RX7, "isBroken", "(I)Z"⟩
abbrev cX7_isEnough : ByteArray := prog_9_method_5_code
def yX7_isEnough : MethodName := ⟨RX7, "isEnough", "()Z"⟩
abbrev cX7_explore : ByteArray := prog_9_method_6_code
def yX7_explore : MethodName := ⟨RX7, "explore", "(IIJI)V"⟩
abbrev cX7_judge : ByteArray := prog_9_method_7_code
def yX7_judge : MethodName := ⟨RX7, "judge", "(II)V"⟩
abbrev cX7_tryOffers : ByteArray := prog_9_method_8_code
def yX7_tryOffers : MethodName := ⟨RX7, "tryOffers", "(IIJI)V"⟩
abbrev cX7_wordOf : ByteArray := prog_9_method_9_code
def yX7_wordOf : MethodName := ⟨RX7, "wordOf", "(II)I"⟩
abbrev cX7_tryViews : ByteArray := prog_9_method_10_code
def yX7_tryViews : MethodName := ⟨RX7, "tryViews", "(IIJII)V"⟩
abbrev cX7_seen : ByteArray := prog_9_method_11_code
def yX7_seen : MethodName := ⟨RX7, "seen", "(III)I"⟩
abbrev cX7_tryRuler : ByteArray := prog_9_method_12_code
def yX7_tryRuler : MethodName := ⟨RX7, "tryRuler", "(IIIJI)V"⟩
abbrev cX7_doesSuspicionCount : ByteArray := prog_9_method_13_code
def yX7_doesSuspicionCount : MethodName := ⟨RX7, "doesSuspicionCount", "(I)Z"⟩
abbrev cX7_spread : ByteArray := prog_9_method_14_code
def yX7_spread : MethodName := ⟨RX7, "spread", "(I)I"⟩
abbrev cX7_addChoice : ByteArray := prog_9_method_15_code
def yX7_addChoice : MethodName := ⟨RX7, "addChoice", "(IIII)I"⟩
abbrev cX7_power : ByteArray := prog_9_method_16_code
def yX7_power : MethodName := ⟨RX7, "power", "(I)I"⟩
abbrev cX7_bitsOf : ByteArray := prog_9_method_17_code
def yX7_bitsOf : MethodName := ⟨RX7, "bitsOf", "(II)I"⟩
def RX8 : String := "RulerWord$Tape"
def TX8 : u_T := fun k => match k with
  | 0 => ("RulerWord$Tape", "bytes", "[I", true)
  | 1 => ("RulerWord$Tape", "length", "I", false)
  | 2 => ("RulerWord$Tape", "at", "I", false)
  | 3 => ("RulerWord$Tape", "behind", "I", false)
  | _ => ("RulerWord$Tape", "kind", "I", false)
def tyX8 : Nat → FieldType := fun k => match k with
  | 0 => .array .int
  | 1 => .int
  | 2 => .int
  | 3 => .int
  | _ => .int
abbrev wsX80 : List Cond := u_ws RX8 TX8 5
theorem nmX8 : ∀ a, a < 5 → ∀ b, b < 5 → a ≠ b → (TX8 a).2.1 ≠ (TX8 b).2.1 := by decide +kernel
theorem tyX8_ok : ∀ k, k < 5 → parseFieldDescriptor (TX8 k).2.2.1 = some (tyX8 k) := by decide +kernel
abbrev cX8_init : ByteArray := prog_10_method_1_code
def yX8_init : MethodName := ⟨RX8, "<init>", "()V"⟩
abbrev cX8_put : ByteArray := prog_10_method_2_code
def yX8_put : MethodName := ⟨RX8, "put", "(I)V"⟩
abbrev cX8_add : ByteArray := prog_10_method_3_code
def yX8_add : MethodName := ⟨RX8, "add", "(I)V"⟩
abbrev cX8_write : ByteArray := prog_10_method_4_code
def yX8_write : MethodName := ⟨RX8, "write", "(Ljava/lang/String;)V"⟩
abbrev cX8_writeNumber : ByteArray := prog_10_method_5_code
def yX8_writeNumber : MethodName := ⟨RX8, "writeNumber", "(Ljava/lang/String;I)V"⟩
abbrev cX8_firstPart : ByteArray := prog_10_method_6_code
def yX8_firstPart : MethodName := ⟨RX8, "firstPart", "()V"⟩
abbrev cX8_nextPart : ByteArray := prog_10_method_7_code
def yX8_nextPart : MethodName := ⟨RX8, "nextPart", "()V"⟩
abbrev cX8_kindOf : ByteArray := prog_10_method_8_code
def yX8_kindOf : MethodName := ⟨RX8, "kindOf", "(I)I"⟩
abbrev cX8_isWord : ByteArray := prog_10_method_9_code
def yX8_isWord : MethodName := ⟨RX8, "isWord", "(Ljava/lang/String;)Z"⟩
abbrev cX8_digits : ByteArray := prog_10_method_10_code
def yX8_digits : MethodName := ⟨RX8, "digits", "()I"⟩
abbrev cX8_digitAt : ByteArray := prog_10_method_11_code
def yX8_digitAt : MethodName := ⟨RX8, "digitAt", "(I)I"⟩
abbrev cX8_number : ByteArray := prog_10_method_12_code
def yX8_number : MethodName := ⟨RX8, "number", "(II)I"⟩
def RX9 : String := "RulerWord$Voice"
def TX9 : u_T := fun k => match k with
  | _ => ("", "", "", false)
def tyX9 : Nat → FieldType := fun k => match k with
  | _ => .int
abbrev wsX90 : List Cond := u_ws RX9 TX9 0
theorem nmX9 : ∀ a, a < 0 → ∀ b, b < 0 → a ≠ b → (TX9 a).2.1 ≠ (TX9 b).2.1 := by decide +kernel
theorem tyX9_ok : ∀ k, k < 0 → parseFieldDescriptor (TX9 k).2.2.1 = some (tyX9 k) := by decide +kernel
abbrev cX9_init : ByteArray := prog_11_method_1_code
def yX9_init : MethodName := ⟨RX9, "<init>", "()V"⟩
def RX10 : String := "RulerWord"
def TX10 : u_T := fun k => match k with
  | 0 => ("RulerWord", "tape", "LRulerWord$Tape;", true)
  | 1 => ("RulerWord", "draft", "LRulerWord$Council;", true)
  | 2 => ("RulerWord", "council", "LRulerWord$Council;", true)
  | 3 => ("RulerWord", "others", "LRulerWord$Council;", true)
  | 4 => ("RulerWord", "draftPlan", "LRulerWord$Plan;", true)
  | 5 => ("RulerWord", "planned", "LRulerWord$Planned;", true)
  | 6 => ("RulerWord", "chance", "LRulerWord$Chance;", true)
  | 7 => ("RulerWord", "freely", "LRulerWord$Free;", true)
  | 8 => ("RulerWord", "now", "LRulerWord$Course;", true)
  | 9 => ("RulerWord", "kept", "LRulerWord$Course;", true)
  | 10 => ("RulerWord", "trial", "LRulerWord$Course;", true)
  | 11 => ("RulerWord", "acts", "LRulerWord$Acts;", true)
  | 12 => ("RulerWord", "search", "LRulerWord$Search;", true)
  | 13 => ("RulerWord", "text", "LRulerWord$Tape;", true)
  | 14 => ("RulerWord", "refused", "[I", true)
  | 15 => ("RulerWord", "convened", "Z", false)
  | 16 => ("RulerWord", "imaged", "Z", false)
  | _ => ("RulerWord", "seed", "J", false)
def tyX10 : Nat → FieldType := fun k => match k with
  | 0 => .object "RulerWord$Tape"
  | 1 => .object "RulerWord$Council"
  | 2 => .object "RulerWord$Council"
  | 3 => .object "RulerWord$Council"
  | 4 => .object "RulerWord$Plan"
  | 5 => .object "RulerWord$Planned"
  | 6 => .object "RulerWord$Chance"
  | 7 => .object "RulerWord$Free"
  | 8 => .object "RulerWord$Course"
  | 9 => .object "RulerWord$Course"
  | 10 => .object "RulerWord$Course"
  | 11 => .object "RulerWord$Acts"
  | 12 => .object "RulerWord$Search"
  | 13 => .object "RulerWord$Tape"
  | 14 => .array .int
  | 15 => .boolean
  | 16 => .boolean
  | _ => .long
abbrev wsX100 : List Cond := u_ws RX10 TX10 18
theorem nmX10 : ∀ a, a < 18 → ∀ b, b < 18 → a ≠ b → (TX10 a).2.1 ≠ (TX10 b).2.1 := by decide +kernel
theorem tyX10_ok : ∀ k, k < 18 → parseFieldDescriptor (TX10 k).2.2.1 = some (tyX10 k) := by decide +kernel
abbrev cX10_init : ByteArray := prog_1_method_1_code
def yX10_init : MethodName := ⟨RX10, "<init>", "()V"⟩
abbrev cX10_feed : ByteArray := prog_1_method_2_code
def yX10_feed : MethodName := ⟨RX10, "feed", "(IIIII)I"⟩
abbrev cX10_end : ByteArray := prog_1_method_3_code
def yX10_end : MethodName := ⟨RX10, "end", "(I)Z"⟩
abbrev cX10_fault : ByteArray := prog_1_method_4_code
def yX10_fault : MethodName := ⟨RX10, "fault", "(I)I"⟩
abbrev cX10_council : ByteArray := prog_1_method_5_code
def yX10_council : MethodName := ⟨RX10, "council", "(J)I"⟩
abbrev cX10_plan : ByteArray := prog_1_method_6_code
def yX10_plan : MethodName := ⟨RX10, "plan", "()I"⟩
abbrev cX10_rule : ByteArray := prog_1_method_7_code
def yX10_rule : MethodName := ⟨RX10, "rule", "(I)I"⟩
abbrev cX10_line : ByteArray := prog_1_method_8_code
def yX10_line : MethodName := ⟨RX10, "line", "(II)I"⟩
abbrev cX10_round : ByteArray := prog_1_method_9_code
def yX10_round : MethodName := ⟨RX10, "round", "()I"⟩
abbrev cX10_run : ByteArray := prog_1_method_10_code
def yX10_run : MethodName := ⟨RX10, "run", "()I"⟩
abbrev cX10_say : ByteArray := prog_1_method_11_code
def yX10_say : MethodName := ⟨RX10, "say", "(IIIII)I"⟩
abbrev cX10_starts : ByteArray := prog_1_method_12_code
def yX10_starts : MethodName := ⟨RX10, "starts", "(I)I"⟩
abbrev cX10_falseOnes : ByteArray := prog_1_method_13_code
def yX10_falseOnes : MethodName := ⟨RX10, "falseOnes", "(I)I"⟩
abbrev cX10_heard : ByteArray := prog_1_method_14_code
def yX10_heard : MethodName := ⟨RX10, "heard", "(IIII)I"⟩
abbrev cX10_peer : ByteArray := prog_1_method_15_code
def yX10_peer : MethodName := ⟨RX10, "peer", "(II)I"⟩
abbrev cX10_told : ByteArray := prog_1_method_16_code
def yX10_told : MethodName := ⟨RX10, "told", "(III)I"⟩
abbrev cX10_agreed : ByteArray := prog_1_method_17_code
def yX10_agreed : MethodName := ⟨RX10, "agreed", "()I"⟩
abbrev cX10_state : ByteArray := prog_1_method_18_code
def yX10_state : MethodName := ⟨RX10, "state", "(I)I"⟩
abbrev cX10_letters : ByteArray := prog_1_method_19_code
def yX10_letters : MethodName := ⟨RX10, "letters", "(I)I"⟩
abbrev cX10_trueRuler : ByteArray := prog_1_method_20_code
def yX10_trueRuler : MethodName := ⟨RX10, "trueRuler", "()I"⟩
abbrev cX10_greatest : ByteArray := prog_1_method_21_code
def yX10_greatest : MethodName := ⟨RX10, "greatest", "(II)I"⟩
abbrev cX10_free : ByteArray := prog_1_method_22_code
def yX10_free : MethodName := ⟨RX10, "free", "()I"⟩
abbrev cX10_broken : ByteArray := prog_1_method_23_code
def yX10_broken : MethodName := ⟨RX10, "broken", "()I"⟩
abbrev cX10_brokenStarts : ByteArray := prog_1_method_24_code
def yX10_brokenStarts : MethodName := ⟨RX10, "brokenStarts", "(I)I"⟩
abbrev cX10_canBreak : ByteArray := prog_1_method_25_code
def yX10_canBreak : MethodName := ⟨RX10, "canBreak", "(I)I"⟩
abbrev cX10_brokenPlan : ByteArray := prog_1_method_26_code
def yX10_brokenPlan : MethodName := ⟨RX10, "brokenPlan", "(I)I"⟩
abbrev cX10_weakest : ByteArray := prog_1_method_27_code
def yX10_weakest : MethodName := ⟨RX10, "weakest", "()I"⟩
abbrev cX10_ruled : ByteArray := prog_1_method_28_code
def yX10_ruled : MethodName := ⟨RX10, "ruled", "(II)I"⟩
abbrev cX10_held : ByteArray := prog_1_method_29_code
def yX10_held : MethodName := ⟨RX10, "held", "(II)I"⟩
abbrev cX10_needed : ByteArray := prog_1_method_30_code
def yX10_needed : MethodName := ⟨RX10, "needed", "()I"⟩
abbrev cX10_asOthers : ByteArray := prog_1_method_31_code
def yX10_asOthers : MethodName := ⟨RX10, "asOthers", "(I)I"⟩
abbrev cX10_byChance : ByteArray := prog_1_method_32_code
def yX10_byChance : MethodName := ⟨RX10, "byChance", "(IJI)I"⟩
abbrev cX10_shown : ByteArray := prog_1_method_33_code
def yX10_shown : MethodName := ⟨RX10, "shown", "(II)I"⟩
abbrev cX10_undo : ByteArray := prog_1_method_34_code
def yX10_undo : MethodName := ⟨RX10, "undo", "()I"⟩
abbrev cX10_image : ByteArray := prog_1_method_35_code
def yX10_image : MethodName := ⟨RX10, "image", "()I"⟩
abbrev cX10_back : ByteArray := prog_1_method_36_code
def yX10_back : MethodName := ⟨RX10, "back", "()I"⟩
abbrev cX10_status : ByteArray := prog_1_method_37_code
def yX10_status : MethodName := ⟨RX10, "status", "(I)I"⟩
abbrev cX10_most : ByteArray := prog_1_method_38_code
def yX10_most : MethodName := ⟨RX10, "most", "(I)I"⟩
abbrev cX10_count : ByteArray := prog_1_method_39_code
def yX10_count : MethodName := ⟨RX10, "count", "(I)I"⟩
abbrev cX10_bit : ByteArray := prog_1_method_40_code
def yX10_bit : MethodName := ⟨RX10, "bit", "(II)I"⟩
abbrev cX10_nibble : ByteArray := prog_1_method_41_code
def yX10_nibble : MethodName := ⟨RX10, "nibble", "(JI)I"⟩
abbrev cX10_greatestBound : ByteArray := prog_1_method_42_code
def yX10_greatestBound : MethodName := ⟨RX10, "greatestBound", "(II)I"⟩
abbrev cX10_isPeer : ByteArray := prog_1_method_43_code
def yX10_isPeer : MethodName := ⟨RX10, "isPeer", "(I)Z"⟩
abbrev cX10_isRound : ByteArray := prog_1_method_44_code
def yX10_isRound : MethodName := ⟨RX10, "isRound", "(II)Z"⟩
abbrev cX10_isGone : ByteArray := prog_1_method_45_code
def yX10_isGone : MethodName := ⟨RX10, "isGone", "(II)Z"⟩
abbrev cX10_phasesOver : ByteArray := prog_1_method_46_code
def yX10_phasesOver : MethodName := ⟨RX10, "phasesOver", "()I"⟩
abbrev cX10_isOver : ByteArray := prog_1_method_47_code
def yX10_isOver : MethodName := ⟨RX10, "isOver", "(I)Z"⟩
abbrev cX10_roundsLeft : ByteArray := prog_1_method_48_code
def yX10_roundsLeft : MethodName := ⟨RX10, "roundsLeft", "()I"⟩
abbrev cX10_playTrial : ByteArray := prog_1_method_49_code
def yX10_playTrial : MethodName := ⟨RX10, "playTrial", "(LRulerWord$Council;LRulerWord$Voice;J)V"⟩
abbrev cX10_refuse : ByteArray := prog_1_method_50_code
def yX10_refuse : MethodName := ⟨RX10, "refuse", "(I)I"⟩
abbrev cX10_whyNotSaid : ByteArray := prog_1_method_51_code
def yX10_whyNotSaid : MethodName := ⟨RX10, "whyNotSaid", "(IIIII)I"⟩
abbrev cX10_whyNotTold : ByteArray := prog_1_method_52_code
def yX10_whyNotTold : MethodName := ⟨RX10, "whyNotTold", "(II)I"⟩
abbrev cX10_isSomeStart : ByteArray := prog_1_method_53_code
def yX10_isSomeStart : MethodName := ⟨RX10, "isSomeStart", "(I)Z"⟩
abbrev cX10_freeWith : ByteArray := prog_1_method_54_code
def yX10_freeWith : MethodName := ⟨RX10, "freeWith", "(I)I"⟩
abbrev cX10_isAsked : ByteArray := prog_1_method_55_code
def yX10_isAsked : MethodName := ⟨RX10, "isAsked", "(I)Z"⟩
abbrev cX10_countBrokenStarts : ByteArray := prog_1_method_56_code
def yX10_countBrokenStarts : MethodName := ⟨RX10, "countBrokenStarts", "(I)I"⟩
abbrev cX10_leastBrokenStart : ByteArray := prog_1_method_57_code
def yX10_leastBrokenStart : MethodName := ⟨RX10, "leastBrokenStart", "(I)I"⟩
abbrev cX10_writeBrokenRound : ByteArray := prog_1_method_58_code
def yX10_writeBrokenRound : MethodName := ⟨RX10, "writeBrokenRound", "(III)V"⟩
abbrev cX10_freeBefore : ByteArray := prog_1_method_59_code
def yX10_freeBefore : MethodName := ⟨RX10, "freeBefore", "(II)I"⟩
abbrev cX10_byteOfText : ByteArray := prog_1_method_60_code
def yX10_byteOfText : MethodName := ⟨RX10, "byteOfText", "(I)I"⟩
abbrev cX10_ruledIn : ByteArray := prog_1_method_61_code
def yX10_ruledIn : MethodName := ⟨RX10, "ruledIn", "(III)I"⟩
abbrev cX10_reachedByRuler : ByteArray := prog_1_method_62_code
def yX10_reachedByRuler : MethodName := ⟨RX10, "reachedByRuler", "(II)I"⟩
abbrev cX10_mostWary : ByteArray := prog_1_method_63_code
def yX10_mostWary : MethodName := ⟨RX10, "mostWary", "()I"⟩
abbrev cX10_mostSuspected : ByteArray := prog_1_method_64_code
def yX10_mostSuspected : MethodName := ⟨RX10, "mostSuspected", "()I"⟩
abbrev cX10_phasesInDoubt : ByteArray := prog_1_method_65_code
def yX10_phasesInDoubt : MethodName := ⟨RX10, "phasesInDoubt", "()I"⟩
abbrev cX10_changesOfTrueOnes : ByteArray := prog_1_method_66_code
def yX10_changesOfTrueOnes : MethodName := ⟨RX10, "changesOfTrueOnes", "()I"⟩
abbrev cX10_mostObedientPhase : ByteArray := prog_1_method_67_code
def yX10_mostObedientPhase : MethodName := ⟨RX10, "mostObedientPhase", "()I"⟩
def RX11 : String := "RulerWordModel"
def TX11 : u_T := fun k => match k with
  | 0 => ("RulerWordModel", "thrown", "I", false)
  | 1 => ("RulerWordModel", "tape", "[B", true)
  | 2 => ("RulerWordModel", "length", "I", false)
  | 3 => ("RulerWordModel", "at", "I", false)
  | 4 => ("RulerWordModel", "fault", "I", false)
  | 5 => ("RulerWordModel", "rowFrom", "I", false)
  | 6 => ("RulerWordModel", "rowLong", "I", false)
  | 7 => ("RulerWordModel", "read", "[I", true)
  | 8 => ("RulerWordModel", "formRead", "I", false)
  | 9 => ("RulerWordModel", "toldRead", "I", false)
  | 10 => ("RulerWordModel", "line", "[I", true)
  | 11 => ("RulerWordModel", "lineRead", "[I", true)
  | 12 => ("RulerWordModel", "lines", "I", false)
  | 13 => ("RulerWordModel", "linesRead", "I", false)
  | 14 => ("RulerWordModel", "form", "I", false)
  | 15 => ("RulerWordModel", "n", "I", false)
  | 16 => ("RulerWordModel", "bound", "I", false)
  | 17 => ("RulerWordModel", "phases", "I", false)
  | 18 => ("RulerWordModel", "skip", "I", false)
  | 19 => ("RulerWordModel", "starts", "I", false)
  | 20 => ("RulerWordModel", "liars", "I", false)
  | 21 => ("RulerWordModel", "seed", "J", false)
  | 22 => ("RulerWordModel", "x", "J", false)
  | 23 => ("RulerWordModel", "hasCouncil", "Z", false)
  | 24 => ("RulerWordModel", "said", "[I", true)
  | 25 => ("RulerWordModel", "saids", "I", false)
  | 26 => ("RulerWordModel", "hold", "[I", true)
  | 27 => ("RulerWordModel", "suspects", "[I", true)
  | 28 => ("RulerWordModel", "lean", "[I", true)
  | 29 => ("RulerWordModel", "zeros", "[I", true)
  | 30 => ("RulerWordModel", "ones", "[I", true)
  | 31 => ("RulerWordModel", "zerosThen", "[I", true)
  | 32 => ("RulerWordModel", "onesThen", "[I", true)
  | 33 => ("RulerWordModel", "square", "[I", true)
  | 34 => ("RulerWordModel", "firm", "[Z", true)
  | 35 => ("RulerWordModel", "took", "[Z", true)
  | 36 => ("RulerWordModel", "gone", "I", false)
  | 37 => ("RulerWordModel", "sent", "I", false)
  | 38 => ("RulerWordModel", "sentByTrue", "I", false)
  | 39 => ("RulerWordModel", "source", "I", false)
  | 40 => ("RulerWordModel", "bits", "I", false)
  | 41 => ("RulerWordModel", "now", "[I", true)
  | 42 => ("RulerWordModel", "image", "[I", true)
  | 43 => ("RulerWordModel", "kept", "[I", true)
  | 44 => ("RulerWordModel", "keptDraw", "[J", true)
  | 45 => ("RulerWordModel", "drawNow", "J", false)
  | 46 => ("RulerWordModel", "imageDraw", "J", false)
  | 47 => ("RulerWordModel", "acts", "I", false)
  | 48 => ("RulerWordModel", "hasImage", "Z", false)
  | 49 => ("RulerWordModel", "refused", "[I", true)
  | 50 => ("RulerWordModel", "leastStart", "I", false)
  | 51 => ("RulerWordModel", "startsMany", "I", false)
  | 52 => ("RulerWordModel", "written", "[I", true)
  | 53 => ("RulerWordModel", "writes", "I", false)
  | 54 => ("RulerWordModel", "shown", "[I", true)
  | _ => ("RulerWordModel", "shows", "I", false)
def tyX11 : Nat → FieldType := fun k => match k with
  | 0 => .int
  | 1 => .array .byte
  | 2 => .int
  | 3 => .int
  | 4 => .int
  | 5 => .int
  | 6 => .int
  | 7 => .array .int
  | 8 => .int
  | 9 => .int
  | 10 => .array .int
  | 11 => .array .int
  | 12 => .int
  | 13 => .int
  | 14 => .int
  | 15 => .int
  | 16 => .int
  | 17 => .int
  | 18 => .int
  | 19 => .int
  | 20 => .int
  | 21 => .long
  | 22 => .long
  | 23 => .boolean
  | 24 => .array .int
  | 25 => .int
  | 26 => .array .int
  | 27 => .array .int
  | 28 => .array .int
  | 29 => .array .int
  | 30 => .array .int
  | 31 => .array .int
  | 32 => .array .int
  | 33 => .array .int
  | 34 => .array .boolean
  | 35 => .array .boolean
  | 36 => .int
  | 37 => .int
  | 38 => .int
  | 39 => .int
  | 40 => .int
  | 41 => .array .int
  | 42 => .array .int
  | 43 => .array .int
  | 44 => .array .long
  | 45 => .long
  | 46 => .long
  | 47 => .int
  | 48 => .boolean
  | 49 => .array .int
  | 50 => .int
  | 51 => .int
  | 52 => .array .int
  | 53 => .int
  | 54 => .array .int
  | _ => .int
abbrev wsX110 : List Cond := u_ws RX11 TX11 56
theorem nmX11 : ∀ a, a < 56 → ∀ b, b < 56 → a ≠ b → (TX11 a).2.1 ≠ (TX11 b).2.1 := by decide +kernel
theorem tyX11_ok : ∀ k, k < 56 → parseFieldDescriptor (TX11 k).2.2.1 = some (tyX11 k) := by decide +kernel
abbrev cX11_init : ByteArray := prog_13_method_1_code
def yX11_init : MethodName := ⟨RX11, "<init>", "()V"⟩
abbrev cX11_thrown : ByteArray := prog_13_method_2_code
def yX11_thrown : MethodName := ⟨RX11, "thrown", "()I"⟩
abbrev cX11_isIn : ByteArray := prog_13_method_3_code
def yX11_isIn : MethodName := ⟨RX11, "isIn", "(JJJ)Z"⟩
abbrev cX11_has : ByteArray := prog_13_method_4_code
def yX11_has : MethodName := ⟨RX11, "has", "(II)Z"⟩
abbrev cX11_bitsIn : ByteArray := prog_13_method_5_code
def yX11_bitsIn : MethodName := ⟨RX11, "bitsIn", "(I)I"⟩
abbrev cX11_bytesOf : ByteArray := prog_13_method_6_code
def yX11_bytesOf : MethodName := ⟨RX11, "bytesOf", "(I)I"⟩
abbrev cX11_brings : ByteArray := prog_13_method_7_code
def yX11_brings : MethodName := ⟨RX11, "brings", "(I)V"⟩
abbrev cX11_feed : ByteArray := prog_13_method_8_code
def yX11_feed : MethodName := ⟨RX11, "feed", "(IIIII)I"⟩
abbrev cX11_end : ByteArray := prog_13_method_9_code
def yX11_end : MethodName := ⟨RX11, "end", "(I)Z"⟩
abbrev cX11_here : ByteArray := prog_13_method_10_code
def yX11_here : MethodName := ⟨RX11, "here", "()I"⟩
abbrev cX11_look : ByteArray := prog_13_method_11_code
def yX11_look : MethodName := ⟨RX11, "look", "()I"⟩
abbrev cX11_fails : ByteArray := prog_13_method_12_code
def yX11_fails : MethodName := ⟨RX11, "fails", "(I)V"⟩
abbrev cX11_isDigit : ByteArray := prog_13_method_13_code
def yX11_isDigit : MethodName := ⟨RX11, "isDigit", "(I)Z"⟩
abbrev cX11_takes : ByteArray := prog_13_method_14_code
def yX11_takes : MethodName := ⟨RX11, "takes", "(Ljava/lang/String;)Z"⟩
abbrev cX11_digits : ByteArray := prog_13_method_15_code
def yX11_digits : MethodName := ⟨RX11, "digits", "()V"⟩
abbrev cX11_digitAt : ByteArray := prog_13_method_16_code
def yX11_digitAt : MethodName := ⟨RX11, "digitAt", "(I)I"⟩
abbrev cX11_digit : ByteArray := prog_13_method_17_code
def yX11_digit : MethodName := ⟨RX11, "digit", "(II)I"⟩
abbrev cX11_pieceHere : ByteArray := prog_13_method_18_code
def yX11_pieceHere : MethodName := ⟨RX11, "pieceHere", "()I"⟩
abbrev cX11_starts : ByteArray := prog_13_method_19_code
def yX11_starts : MethodName := ⟨RX11, "starts", "()V"⟩
abbrev cX11_liars : ByteArray := prog_13_method_20_code
def yX11_liars : MethodName := ⟨RX11, "liars", "()V"⟩
abbrev cX11_piece : ByteArray := prog_13_method_21_code
def yX11_piece : MethodName := ⟨RX11, "piece", "()V"⟩
abbrev cX11_readsCouncil : ByteArray := prog_13_method_22_code
def yX11_readsCouncil : MethodName := ⟨RX11, "readsCouncil", "()I"⟩
abbrev cX11_planLine : ByteArray := prog_13_method_23_code
def yX11_planLine : MethodName := ⟨RX11, "planLine", "()V"⟩
abbrev cX11_readsPlan : ByteArray := prog_13_method_24_code
def yX11_readsPlan : MethodName := ⟨RX11, "readsPlan", "()I"⟩
abbrev cX11_fault : ByteArray := prog_13_method_25_code
def yX11_fault : MethodName := ⟨RX11, "fault", "(I)I"⟩
abbrev cX11_council : ByteArray := prog_13_method_26_code
def yX11_council : MethodName := ⟨RX11, "council", "(J)I"⟩
abbrev cX11_plan : ByteArray := prog_13_method_27_code
def yX11_plan : MethodName := ⟨RX11, "plan", "()I"⟩
abbrev cX11_startsAnew : ByteArray := prog_13_method_28_code
def yX11_startsAnew : MethodName := ⟨RX11, "startsAnew", "()V"⟩
abbrev cX11_each : ByteArray := prog_13_method_29_code
def yX11_each : MethodName := ⟨RX11, "each", "()I"⟩
abbrev cX11_isLiar : ByteArray := prog_13_method_30_code
def yX11_isLiar : MethodName := ⟨RX11, "isLiar", "(I)Z"⟩
abbrev cX11_draw : ByteArray := prog_13_method_31_code
def yX11_draw : MethodName := ⟨RX11, "draw", "()I"⟩
abbrev cX11_agrees : ByteArray := prog_13_method_32_code
def yX11_agrees : MethodName := ⟨RX11, "agrees", "(II)Z"⟩
abbrev cX11_byPlan : ByteArray := prog_13_method_33_code
def yX11_byPlan : MethodName := ⟨RX11, "byPlan", "(IIIII)I"⟩
abbrev cX11_letterOf : ByteArray := prog_13_method_34_code
def yX11_letterOf : MethodName := ⟨RX11, "letterOf", "(IIIII)I"⟩
abbrev cX11_sends : ByteArray := prog_13_method_35_code
def yX11_sends : MethodName := ⟨RX11, "sends", "(II)V"⟩
abbrev cX11_countOf : ByteArray := prog_13_method_36_code
def yX11_countOf : MethodName := ⟨RX11, "countOf", "(II)I"⟩
abbrev cX11_hearsAll : ByteArray := prog_13_method_37_code
def yX11_hearsAll : MethodName := ⟨RX11, "hearsAll", "(I)V"⟩
abbrev cX11_hearsOffers : ByteArray := prog_13_method_38_code
def yX11_hearsOffers : MethodName := ⟨RX11, "hearsOffers", "(I)V"⟩
abbrev cX11_hearsRuler : ByteArray := prog_13_method_39_code
def yX11_hearsRuler : MethodName := ⟨RX11, "hearsRuler", "(II)V"⟩
abbrev cX11_rounds : ByteArray := prog_13_method_40_code
def yX11_rounds : MethodName := ⟨RX11, "rounds", "()V"⟩
abbrev cX11_areAgreed : ByteArray := prog_13_method_41_code
def yX11_areAgreed : MethodName := ⟨RX11, "areAgreed", "()Z"⟩
abbrev cX11_holders : ByteArray := prog_13_method_42_code
def yX11_holders : MethodName := ⟨RX11, "holders", "()I"⟩
abbrev cX11_runsWhole : ByteArray := prog_13_method_43_code
def yX11_runsWhole : MethodName := ⟨RX11, "runsWhole", "(II)V"⟩
abbrev cX11_laysDown : ByteArray := prog_13_method_44_code
def yX11_laysDown : MethodName := ⟨RX11, "laysDown", "()V"⟩
abbrev cX11_takesUp : ByteArray := prog_13_method_45_code
def yX11_takesUp : MethodName := ⟨RX11, "takesUp", "()V"⟩
abbrev cX11_begins : ByteArray := prog_13_method_46_code
def yX11_begins : MethodName := ⟨RX11, "begins", "()V"⟩
abbrev cX11_keeps : ByteArray := prog_13_method_47_code
def yX11_keeps : MethodName := ⟨RX11, "keeps", "()V"⟩
abbrev cX11_toldAt : ByteArray := prog_13_method_48_code
def yX11_toldAt : MethodName := ⟨RX11, "toldAt", "(II)I"⟩
abbrev cX11_roundNow : ByteArray := prog_13_method_49_code
def yX11_roundNow : MethodName := ⟨RX11, "roundNow", "()V"⟩
abbrev cX11_inAll : ByteArray := prog_13_method_50_code
def yX11_inAll : MethodName := ⟨RX11, "inAll", "()I"⟩
abbrev cX11_round : ByteArray := prog_13_method_51_code
def yX11_round : MethodName := ⟨RX11, "round", "()I"⟩
abbrev cX11_run : ByteArray := prog_13_method_52_code
def yX11_run : MethodName := ⟨RX11, "run", "()I"⟩
abbrev cX11_refuse : ByteArray := prog_13_method_53_code
def yX11_refuse : MethodName := ⟨RX11, "refuse", "(I)I"⟩
abbrev cX11_isPeer : ByteArray := prog_13_method_54_code
def yX11_isPeer : MethodName := ⟨RX11, "isPeer", "(I)Z"⟩
abbrev cX11_isRound : ByteArray := prog_13_method_55_code
def yX11_isRound : MethodName := ⟨RX11, "isRound", "(II)Z"⟩
abbrev cX11_say : ByteArray := prog_13_method_56_code
def yX11_say : MethodName := ⟨RX11, "say", "(IIIII)I"⟩
abbrev cX11_starts_ : ByteArray := prog_13_method_57_code
def yX11_starts_ : MethodName := ⟨RX11, "starts", "(I)I"⟩
abbrev cX11_falseOnes : ByteArray := prog_13_method_58_code
def yX11_falseOnes : MethodName := ⟨RX11, "falseOnes", "(I)I"⟩
abbrev cX11_undo : ByteArray := prog_13_method_59_code
def yX11_undo : MethodName := ⟨RX11, "undo", "()I"⟩
abbrev cX11_image : ByteArray := prog_13_method_60_code
def yX11_image : MethodName := ⟨RX11, "image", "()I"⟩
abbrev cX11_back : ByteArray := prog_13_method_61_code
def yX11_back : MethodName := ⟨RX11, "back", "()I"⟩
abbrev cX11_status : ByteArray := prog_13_method_62_code
def yX11_status : MethodName := ⟨RX11, "status", "(I)I"⟩
abbrev cX11_rule : ByteArray := prog_13_method_63_code
def yX11_rule : MethodName := ⟨RX11, "rule", "(I)I"⟩
abbrev cX11_line : ByteArray := prog_13_method_64_code
def yX11_line : MethodName := ⟨RX11, "line", "(II)I"⟩
abbrev cX11_heard : ByteArray := prog_13_method_65_code
def yX11_heard : MethodName := ⟨RX11, "heard", "(IIII)I"⟩
abbrev cX11_peer : ByteArray := prog_13_method_66_code
def yX11_peer : MethodName := ⟨RX11, "peer", "(II)I"⟩
abbrev cX11_over : ByteArray := prog_13_method_67_code
def yX11_over : MethodName := ⟨RX11, "over", "()I"⟩
abbrev cX11_told : ByteArray := prog_13_method_68_code
def yX11_told : MethodName := ⟨RX11, "told", "(III)I"⟩
abbrev cX11_heldBehind : ByteArray := prog_13_method_69_code
def yX11_heldBehind : MethodName := ⟨RX11, "heldBehind", "(II)I"⟩
abbrev cX11_isTrue : ByteArray := prog_13_method_70_code
def yX11_isTrue : MethodName := ⟨RX11, "isTrue", "(I)Z"⟩
abbrev cX11_areAgreedBehind : ByteArray := prog_13_method_71_code
def yX11_areAgreedBehind : MethodName := ⟨RX11, "areAgreedBehind", "(I)Z"⟩
abbrev cX11_agreed : ByteArray := prog_13_method_72_code
def yX11_agreed : MethodName := ⟨RX11, "agreed", "()I"⟩
abbrev cX11_trueOnes : ByteArray := prog_13_method_73_code
def yX11_trueOnes : MethodName := ⟨RX11, "trueOnes", "(I)I"⟩
abbrev cX11_isSomeStart : ByteArray := prog_13_method_74_code
def yX11_isSomeStart : MethodName := ⟨RX11, "isSomeStart", "(I)Z"⟩
abbrev cX11_state : ByteArray := prog_13_method_75_code
def yX11_state : MethodName := ⟨RX11, "state", "(I)I"⟩
abbrev cX11_foretold : ByteArray := prog_13_method_76_code
def yX11_foretold : MethodName := ⟨RX11, "foretold", "(I)I"⟩
abbrev cX11_letters : ByteArray := prog_13_method_77_code
def yX11_letters : MethodName := ⟨RX11, "letters", "(I)I"⟩
abbrev cX11_trueRuler : ByteArray := prog_13_method_78_code
def yX11_trueRuler : MethodName := ⟨RX11, "trueRuler", "()I"⟩
abbrev cX11_greatest : ByteArray := prog_13_method_79_code
def yX11_greatest : MethodName := ⟨RX11, "greatest", "(II)I"⟩
abbrev cX11_freeIn : ByteArray := prog_13_method_80_code
def yX11_freeIn : MethodName := ⟨RX11, "freeIn", "(I)I"⟩
abbrev cX11_free : ByteArray := prog_13_method_81_code
def yX11_free : MethodName := ⟨RX11, "free", "()I"⟩
abbrev cX11_leastBroken : ByteArray := prog_13_method_82_code
def yX11_leastBroken : MethodName := ⟨RX11, "leastBroken", "()I"⟩
abbrev cX11_canSearch : ByteArray := prog_13_method_83_code
def yX11_canSearch : MethodName := ⟨RX11, "canSearch", "()Z"⟩
abbrev cX11_broken : ByteArray := prog_13_method_84_code
def yX11_broken : MethodName := ⟨RX11, "broken", "()I"⟩
abbrev cX11_findsStarts : ByteArray := prog_13_method_85_code
def yX11_findsStarts : MethodName := ⟨RX11, "findsStarts", "()V"⟩
abbrev cX11_brokenStarts : ByteArray := prog_13_method_86_code
def yX11_brokenStarts : MethodName := ⟨RX11, "brokenStarts", "(I)I"⟩
abbrev cX11_breaksSome : ByteArray := prog_13_method_87_code
def yX11_breaksSome : MethodName := ⟨RX11, "breaksSome", "()Z"⟩
abbrev cX11_canBreak : ByteArray := prog_13_method_88_code
def yX11_canBreak : MethodName := ⟨RX11, "canBreak", "(I)I"⟩
abbrev cX11_writesWord : ByteArray := prog_13_method_89_code
def yX11_writesWord : MethodName := ⟨RX11, "writesWord", "(Ljava/lang/String;)V"⟩
abbrev cX11_writesDigit : ByteArray := prog_13_method_90_code
def yX11_writesDigit : MethodName := ⟨RX11, "writesDigit", "(I)V"⟩
abbrev cX11_writesPlan : ByteArray := prog_13_method_91_code
def yX11_writesPlan : MethodName := ⟨RX11, "writesPlan", "(I)V"⟩
abbrev cX11_brokenPlan : ByteArray := prog_13_method_92_code
def yX11_brokenPlan : MethodName := ⟨RX11, "brokenPlan", "(I)I"⟩
abbrev cX11_weakest : ByteArray := prog_13_method_93_code
def yX11_weakest : MethodName := ⟨RX11, "weakest", "()I"⟩
abbrev cX11_ruled : ByteArray := prog_13_method_94_code
def yX11_ruled : MethodName := ⟨RX11, "ruled", "(II)I"⟩
abbrev cX11_held : ByteArray := prog_13_method_95_code
def yX11_held : MethodName := ⟨RX11, "held", "(II)I"⟩
abbrev cX11_needed : ByteArray := prog_13_method_96_code
def yX11_needed : MethodName := ⟨RX11, "needed", "()I"⟩
abbrev cX11_asOthers : ByteArray := prog_13_method_97_code
def yX11_asOthers : MethodName := ⟨RX11, "asOthers", "(I)I"⟩
abbrev cX11_byChance : ByteArray := prog_13_method_98_code
def yX11_byChance : MethodName := ⟨RX11, "byChance", "(IJI)I"⟩
abbrev cX11_shows : ByteArray := prog_13_method_99_code
def yX11_shows : MethodName := ⟨RX11, "shows", "(I)V"⟩
abbrev cX11_showsWord : ByteArray := prog_13_method_100_code
def yX11_showsWord : MethodName := ⟨RX11, "showsWord", "(Ljava/lang/String;)V"⟩
abbrev cX11_shown : ByteArray := prog_13_method_101_code
def yX11_shown : MethodName := ⟨RX11, "shown", "(II)I"⟩
abbrev cX11_mostSuspecting : ByteArray := prog_13_method_102_code
def yX11_mostSuspecting : MethodName := ⟨RX11, "mostSuspecting", "(Z)I"⟩
abbrev cX11_trueOf : ByteArray := prog_13_method_103_code
def yX11_trueOf : MethodName := ⟨RX11, "trueOf", "(III)I"⟩
abbrev cX11_changes : ByteArray := prog_13_method_104_code
def yX11_changes : MethodName := ⟨RX11, "changes", "()I"⟩
abbrev cX11_most : ByteArray := prog_13_method_105_code
def yX11_most : MethodName := ⟨RX11, "most", "(I)I"⟩
abbrev cX11_count : ByteArray := prog_13_method_106_code
def yX11_count : MethodName := ⟨RX11, "count", "(I)I"⟩
def RJx145de : String := "java/io/Serializable"
def TJx145de : u_T := fun k => match k with
  | _ => ("", "", "", false)
def tyJx145de : Nat → FieldType := fun k => match k with
  | _ => .int
abbrev wsJx145de0 : List Cond := u_ws RJx145de TJx145de 0
theorem nmJx145de : ∀ a, a < 0 → ∀ b, b < 0 → a ≠ b → (TJx145de a).2.1 ≠ (TJx145de b).2.1 := by decide +kernel
theorem tyJx145de_ok : ∀ k, k < 0 → parseFieldDescriptor (TJx145de k).2.2.1 = some (tyJx145de k) := by decide +kernel
def RJx9f9b0 : String := "java/lang/CharSequence"
def TJx9f9b0 : u_T := fun k => match k with
  | _ => ("", "", "", false)
def tyJx9f9b0 : Nat → FieldType := fun k => match k with
  | _ => .int
abbrev wsJx9f9b00 : List Cond := u_ws RJx9f9b0 TJx9f9b0 0
theorem nmJx9f9b0 : ∀ a, a < 0 → ∀ b, b < 0 → a ≠ b → (TJx9f9b0 a).2.1 ≠ (TJx9f9b0 b).2.1 := by decide +kernel
theorem tyJx9f9b0_ok : ∀ k, k < 0 → parseFieldDescriptor (TJx9f9b0 k).2.2.1 = some (tyJx9f9b0 k) := by decide +kernel
def RJxb160c : String := "java/lang/Comparable"
def TJxb160c : u_T := fun k => match k with
  | _ => ("", "", "", false)
def tyJxb160c : Nat → FieldType := fun k => match k with
  | _ => .int
abbrev wsJxb160c0 : List Cond := u_ws RJxb160c TJxb160c 0
theorem nmJxb160c : ∀ a, a < 0 → ∀ b, b < 0 → a ≠ b → (TJxb160c a).2.1 ≠ (TJxb160c b).2.1 := by decide +kernel
theorem tyJxb160c_ok : ∀ k, k < 0 → parseFieldDescriptor (TJxb160c k).2.2.1 = some (tyJxb160c k) := by decide +kernel
def RJ6 : String := "java/lang/Integer"
def TJ6 : u_T := fun k => match k with
  | _ => ("", "", "", false)
def tyJ6 : Nat → FieldType := fun k => match k with
  | _ => .int
abbrev wsJ60 : List Cond := u_ws RJ6 TJ6 0
theorem nmJ6 : ∀ a, a < 0 → ∀ b, b < 0 → a ≠ b → (TJ6 a).2.1 ≠ (TJ6 b).2.1 := by decide +kernel
theorem tyJ6_ok : ∀ k, k < 0 → parseFieldDescriptor (TJ6 k).2.2.1 = some (tyJ6 k) := by decide +kernel
abbrev cJ6_bitCount_0f7a4 : ByteArray := prog_18_method_49_code
def yJ6_bitCount_0f7a4 : MethodName := ⟨RJ6, "bitCount", "(I)I"⟩
def RJ13 : String := "java/lang/Long"
def TJ13 : u_T := fun k => match k with
  | _ => ("", "", "", false)
def tyJ13 : Nat → FieldType := fun k => match k with
  | _ => .int
abbrev wsJ130 : List Cond := u_ws RJ13 TJ13 0
theorem nmJ13 : ∀ a, a < 0 → ∀ b, b < 0 → a ≠ b → (TJ13 a).2.1 ≠ (TJ13 b).2.1 := by decide +kernel
theorem tyJ13_ok : ∀ k, k < 0 → parseFieldDescriptor (TJ13 k).2.2.1 = some (tyJ13 k) := by decide +kernel
abbrev cJ13_bitCount_95d88 : ByteArray := prog_19_method_50_code
def yJ13_bitCount_95d88 : MethodName := ⟨RJ13, "bitCount", "(J)I"⟩
def RJ9 : String := "java/lang/Math"
def TJ9 : u_T := fun k => match k with
  | _ => ("", "", "", false)
def tyJ9 : Nat → FieldType := fun k => match k with
  | _ => .int
abbrev wsJ90 : List Cond := u_ws RJ9 TJ9 0
theorem nmJ9 : ∀ a, a < 0 → ∀ b, b < 0 → a ≠ b → (TJ9 a).2.1 ≠ (TJ9 b).2.1 := by decide +kernel
theorem tyJ9_ok : ∀ k, k < 0 → parseFieldDescriptor (TJ9 k).2.2.1 = some (tyJ9 k) := by decide +kernel
abbrev cJ9_max_7cf53 : ByteArray := prog_20_method_65_code
def yJ9_max_7cf53 : MethodName := ⟨RJ9, "max", "(II)I"⟩
abbrev cJ9_min_7cf53 : ByteArray := prog_20_method_69_code
def yJ9_min_7cf53 : MethodName := ⟨RJ9, "min", "(II)I"⟩
def RJ0 : String := "java/lang/String"
def TJ0 : u_T := fun k => match k with
  | _ => ("", "", "", false)
def tyJ0 : Nat → FieldType := fun k => match k with
  | _ => .int
abbrev wsJ00 : List Cond := u_ws RJ0 TJ0 0
theorem nmJ0 : ∀ a, a < 0 → ∀ b, b < 0 → a ≠ b → (TJ0 a).2.1 ≠ (TJ0 b).2.1 := by decide +kernel
theorem tyJ0_ok : ∀ k, k < 0 → parseFieldDescriptor (TJ0 k).2.2.1 = some (tyJ0 k) := by decide +kernel
abbrev cJ0_length_8abf5 : ByteArray := prog_22_method_54_code
def yJ0_length_8abf5 : MethodName := ⟨RJ0, "length", "()I"⟩
abbrev cJ0_charAt_5068e : ByteArray := prog_22_method_56_code
def yJ0_charAt_5068e : MethodName := ⟨RJ0, "charAt", "(I)C"⟩
abbrev cJ0_coder_7d493 : ByteArray := prog_22_method_152_code
def yJ0_coder_7d493 : MethodName := ⟨RJ0, "coder", "()B"⟩
abbrev cJ0_isLatin1_aae02 : ByteArray := prog_22_method_154_code
def yJ0_isLatin1_aae02 : MethodName := ⟨RJ0, "isLatin1", "()Z"⟩
abbrev cJ0_checkIndex_df160 : ByteArray := prog_22_method_155_code
def yJ0_checkIndex_df160 : MethodName := ⟨RJ0, "checkIndex", "(II)V"⟩
def RJ1 : String := "java/lang/StringLatin1"
def TJ1 : u_T := fun k => match k with
  | _ => ("", "", "", false)
def tyJ1 : Nat → FieldType := fun k => match k with
  | _ => .int
abbrev wsJ10 : List Cond := u_ws RJ1 TJ1 0
theorem nmJ1 : ∀ a, a < 0 → ∀ b, b < 0 → a ≠ b → (TJ1 a).2.1 ≠ (TJ1 b).2.1 := by decide +kernel
theorem tyJ1_ok : ∀ k, k < 0 → parseFieldDescriptor (TJ1 k).2.2.1 = some (tyJ1 k) := by decide +kernel
abbrev cJ1_charAt_3b067 : ByteArray := prog_23_method_2_code
def yJ1_charAt_3b067 : MethodName := ⟨RJ1, "charAt", "([BI)C"⟩
def RJ2 : String := "java/lang/StringUTF16"
def TJ2 : u_T := fun k => match k with
  | _ => ("", "", "", false)
def tyJ2 : Nat → FieldType := fun k => match k with
  | _ => .int
abbrev wsJ20 : List Cond := u_ws RJ2 TJ2 0
theorem nmJ2 : ∀ a, a < 0 → ∀ b, b < 0 → a ≠ b → (TJ2 a).2.1 ≠ (TJ2 b).2.1 := by decide +kernel
theorem tyJ2_ok : ∀ k, k < 0 → parseFieldDescriptor (TJ2 k).2.2.1 = some (tyJ2 k) := by decide +kernel
abbrev cJ2_getChar_3b067 : ByteArray := prog_24_method_5_code
def yJ2_getChar_3b067 : MethodName := ⟨RJ2, "getChar", "([BI)C"⟩
abbrev cJ2_length_9d52b : ByteArray := prog_24_method_6_code
def yJ2_length_9d52b : MethodName := ⟨RJ2, "length", "([B)I"⟩
abbrev cJ2_charAt_3b067 : ByteArray := prog_24_method_83_code
def yJ2_charAt_3b067 : MethodName := ⟨RJ2, "charAt", "([BI)C"⟩
abbrev cJ2_checkIndex_2214a : ByteArray := prog_24_method_91_code
def yJ2_checkIndex_2214a : MethodName := ⟨RJ2, "checkIndex", "(I[B)V"⟩
def RJ10 : String := "java/lang/System"
def TJ10 : u_T := fun k => match k with
  | _ => ("", "", "", false)
def tyJ10 : Nat → FieldType := fun k => match k with
  | _ => .int
abbrev wsJ100 : List Cond := u_ws RJ10 TJ10 0
theorem nmJ10 : ∀ a, a < 0 → ∀ b, b < 0 → a ≠ b → (TJ10 a).2.1 ≠ (TJ10 b).2.1 := by decide +kernel
theorem tyJ10_ok : ∀ k, k < 0 → parseFieldDescriptor (TJ10 k).2.2.1 = some (tyJ10 k) := by decide +kernel
def RJxfd54e : String := "java/lang/constant/Constable"
def TJxfd54e : u_T := fun k => match k with
  | _ => ("", "", "", false)
def tyJxfd54e : Nat → FieldType := fun k => match k with
  | _ => .int
abbrev wsJxfd54e0 : List Cond := u_ws RJxfd54e TJxfd54e 0
theorem nmJxfd54e : ∀ a, a < 0 → ∀ b, b < 0 → a ≠ b → (TJxfd54e a).2.1 ≠ (TJxfd54e b).2.1 := by decide +kernel
theorem tyJxfd54e_ok : ∀ k, k < 0 → parseFieldDescriptor (TJxfd54e k).2.2.1 = some (tyJxfd54e k) := by decide +kernel
def RJx3cf43 : String := "java/lang/constant/ConstantDesc"
def TJx3cf43 : u_T := fun k => match k with
  | _ => ("", "", "", false)
def tyJx3cf43 : Nat → FieldType := fun k => match k with
  | _ => .int
abbrev wsJx3cf430 : List Cond := u_ws RJx3cf43 TJx3cf43 0
theorem nmJx3cf43 : ∀ a, a < 0 → ∀ b, b < 0 → a ≠ b → (TJx3cf43 a).2.1 ≠ (TJx3cf43 b).2.1 := by decide +kernel
theorem tyJx3cf43_ok : ∀ k, k < 0 → parseFieldDescriptor (TJx3cf43 k).2.2.1 = some (tyJx3cf43 k) := by decide +kernel
def RJ3 : String := "jdk/internal/util/Preconditions"
def TJ3 : u_T := fun k => match k with
  | _ => ("", "", "", false)
def tyJ3 : Nat → FieldType := fun k => match k with
  | _ => .int
abbrev wsJ30 : List Cond := u_ws RJ3 TJ3 0
theorem nmJ3 : ∀ a, a < 0 → ∀ b, b < 0 → a ≠ b → (TJ3 a).2.1 ≠ (TJ3 b).2.1 := by decide +kernel
theorem tyJ3_ok : ∀ k, k < 0 → parseFieldDescriptor (TJ3 k).2.2.1 = some (tyJ3 k) := by decide +kernel
abbrev cJ3_checkIndex_8e157 : ByteArray := prog_30_method_11_code
def yJ3_checkIndex_8e157 : MethodName := ⟨RJ3, "checkIndex", "(IILjava/util/function/BiFunction;)I"⟩
def RL : String := "RulerWordLaw"
abbrev cL_line : ByteArray := method_3_code
def yL_line : MethodName := ⟨RL, "line", "(LRulerWord;II[J)I"⟩
abbrev cL_law : ByteArray := code
def yL_law : MethodName := ⟨RL, "law", "([I)Z"⟩
abbrev vwCl : List vw_C := [(RX0, TX0, 3), (RX1, TX1, 2), (RX2, TX2, 8), (RX3, TX3, 18), (RX4, TX4, 4), (RX5, TX5, 2), (RX6, TX6, 3), (RX7, TX7, 14), (RX8, TX8, 5), (RX10, TX10, 18), (RX11, TX11, 56)]
def nS : Nat := 31
def lenS : List Nat := [4, 5, 4, 5, 6, 6, 5, 4, 5, 5, 4, 2, 4, 4, 5, 4, 6, 7, 7, 6, 4, 1, 7, 3, 2, 1, 1, 0, 1, 1, 1]
def bytS : List (List Int32) := [[107, 105, 110, 103], [113, 117, 101, 101, 110], [115, 105, 122, 101], [98, 111, 117, 110, 100], [112, 104, 97, 115, 101, 115], [115, 116, 97, 114, 116, 115], [102, 97, 108, 115, 101], [115, 107, 105, 112], [112, 104, 97, 115, 101], [114, 111, 117, 110, 100], [102, 114, 111, 109], [116, 111], [115, 97, 109, 101], [116, 117, 114, 110], [115, 112, 108, 105, 116], [100, 114, 97, 119], [112, 104, 97, 115, 101, 32], [59, 112, 104, 97, 115, 101, 32], [32, 114, 111, 117, 110, 100, 32], [32, 102, 114, 111, 109, 32], [32, 116, 111, 32], [32], [32, 114, 117, 108, 101, 114, 32], [44, 32, 120], [44, 32], [61], [33], [], [60], [63], [59]]
def SR : List (String × Nat × String × Nat) := [("RulerWord$Council", 42, "king", 0), ("RulerWord$Council", 48, "queen", 1), ("RulerWord$Council", 97, "size", 2), ("RulerWord$Council", 98, "bound", 3), ("RulerWord$Council", 99, "phases", 4), ("RulerWord$Council", 100, "starts", 5), ("RulerWord$Council", 101, "false", 6), ("RulerWord$Council", 103, "skip", 7), ("RulerWord$Plan", 63, "phase", 8), ("RulerWord$Plan", 65, "round", 9), ("RulerWord$Plan", 67, "from", 10), ("RulerWord$Plan", 69, "to", 11), ("RulerWord$Plan", 71, "same", 12), ("RulerWord$Plan", 73, "turn", 13), ("RulerWord$Plan", 75, "split", 14), ("RulerWord$Plan", 77, "draw", 15), ("RulerWord", 354, "phase ", 16), ("RulerWord", 412, ";phase ", 17), ("RulerWord", 414, " round ", 18), ("RulerWord", 416, " from ", 19), ("RulerWord", 418, " to ", 20), ("RulerWord", 420, " ", 21), ("RulerWord", 360, " ruler ", 22), ("RulerWord", 362, ", x", 23), ("RulerWord", 364, ", ", 24), ("RulerWord", 366, "=", 25), ("RulerWord", 368, "!", 26), ("RulerWord", 370, "", 27), ("RulerWord", 376, "<", 28), ("RulerWord", 378, "?", 29), ("RulerWordModel", 174, "king", 0), ("RulerWordModel", 176, "queen", 1), ("RulerWordModel", 139, "size", 2), ("RulerWordModel", 145, "bound", 3), ("RulerWordModel", 147, "phases", 4), ("RulerWordModel", 149, "starts", 5), ("RulerWordModel", 151, "false", 6), ("RulerWordModel", 153, "skip", 7), ("RulerWordModel", 187, "phase", 8), ("RulerWordModel", 189, "round", 9), ("RulerWordModel", 191, "from", 10), ("RulerWordModel", 193, "to", 11), ("RulerWordModel", 195, "same", 12), ("RulerWordModel", 197, "turn", 13), ("RulerWordModel", 199, "split", 14), ("RulerWordModel", 201, "draw", 15), ("RulerWordModel", 417, ";", 30), ("RulerWordModel", 423, "phase ", 16), ("RulerWordModel", 428, " round ", 18), ("RulerWordModel", 430, " from ", 19), ("RulerWordModel", 432, " to ", 20), ("RulerWordModel", 434, " ", 21), ("RulerWordModel", 456, " ruler ", 22), ("RulerWordModel", 458, ", ", 24)]
end
section
/-! THE POOL: a world of addresses L, what each holds f; one list of words for every method -/
abbrev HP : Type := Nat → va_E
abbrev GG : Type := va_G × (Nat → ClassId) × (Nat → Nat) × (Nat → Nat)
def isNest : Cond → Bool
  | .fieldLinkNest _ _ _ _ _ _ => true
  | .methodLinkNest _ _ _ _ => true
  | _ => false
def GW : List Cond := lw_tbl.filter goodWord
def NW : List Cond := lw_tbl.filter isNest
theorem mG {w : Cond} (i : Nat) (h : lw_tbl[i]? = some w) (g : goodWord w = true) : w ∈ GW := List.mem_filter.mpr ⟨List.mem_of_getElem? h, g⟩
theorem mN {w : Cond} (i : Nat) (h : lw_tbl[i]? = some w) (g : isNest w = true) : w ∈ NW := List.mem_filter.mpr ⟨List.mem_of_getElem? h, g⟩
theorem mT {w c : Cond} (h : w ∈ GW) : w ∈ c :: GW := List.mem_cons_of_mem _ h
theorem goodGW {w : Cond} (h : w ∈ GW) : (w.onTables && w.keeps) = true ∨ ∃ ty, w = .arrayClass ty := good_of_word (List.mem_filter.mp h).2
theorem goodIn_GW {c d : Cond} (h : d ∈ GW) : GoodIn (c :: GW) (d :: GW) := fun w hw => (List.mem_cons.mp hw).elim (fun e => ⟨by rw [e]; exact mT h, by rw [e]; exact goodGW h⟩) (fun h2 => ⟨mT h2, goodGW h2⟩)
theorem nest_on {w : Cond} (h : isNest w = true) : w.onTables = true := by
  cases w <;> first | rfl | exact absurd h (by simp [isNest])
theorem nest_warm {w : Cond} (h : isNest w = true) {s U : State} (hW : s.WarmedH U.vm) (hZ : va_Nw w s) : va_Nw w U := by
  cases w <;> first | exact va_Nw.warmF hW hZ | exact va_Nw.warmM hW hZ | exact absurd h (by simp [isNest])
/-- the claim's string constants: (owner, entry, text, which literal) -/
def tyG (g : GG) : List (ClassId × FieldType) := [(g.2.1 0, .int), (g.2.1 1, .long), (g.2.1 2, .byte), (g.2.1 3, .boolean), (g.2.1 4, .object "RulerWord$Course")]
def GK (g : GG) (U : State) : Prop := va_K g.1 vwCl (tyG g) U ∧ (∀ w ∈ NW, va_Nw w U) ∧ (∀ q ∈ SR, vk_R q.1 q.2.1 q.2.2.1 (g.2.2.1 q.2.2.2) U) ∧ va_AO "RulerWord$Course" U
theorem GK.warm {g : GG} {s U : State} (hW : s.WarmedH U.vm) (h : GK g s) : GK g U := ⟨va_K.moved hW.alike h.1, fun w hw => nest_warm (List.mem_filter.mp hw).2 hW (h.2.1 w hw), fun q hq => vk_R.warm hW (h.2.2.1 q hq), va_AO.moved hW.alike h.2.2.2⟩
theorem GK.same {g : GG} {s U : State} (hv : U.vm = s.vm) (h : GK g s) : GK g U := ⟨va_K.moved (by rw [hv]; exact Vm.Alike.refl _) h.1, fun w hw => va_Nw.same (nest_on (List.mem_filter.mp hw).2) hv.symm (h.2.1 w hw), fun q hq => vk_R.same hv (h.2.2.1 q hq), va_AO.moved (by rw [hv]; exact Vm.Alike.refl _) h.2.2.2⟩
abbrev Rg (L : List Nat) (f : HP) (sz : Nat) : Nat → Prop := va_A (va_pl L f) sz
def SW (g : GG) (A : Nat → Prop) (U : State) (H : Heap) : Prop := (∀ i : Nat, i < nS → va_O "java/lang/String" (g.2.2.1 i) A U H ∧ va_OF "java/lang/String" "coder" "B" (.int 0) (g.2.2.1 i) A U H ∧ va_OF "java/lang/String" "value" "[B" (.ref (g.2.2.2 i)) (g.2.2.1 i) A U H ∧ va_T .byte (g.2.2.2 i) (lenS.getD i 0) (fun j => .int ((bytS.getD i []).getD j 0)) A U H) ∧ va_Z "java/lang/String" "COMPACT_STRINGS" "Z" (.int 1) A U H
theorem SW.moved {g : GG} {A : Nat → Prop} {u U : State} {H : Heap} (hvm : u.vm.Alike U.vm) (h : SW g A u H) : SW g A U H := ⟨fun i hi => ⟨va_O.moved hvm (h.1 i hi).1, va_OF.moved hvm (h.1 i hi).2.1, va_OF.moved hvm (h.1 i hi).2.2.1, va_T.moved hvm (h.1 i hi).2.2.2⟩, va_Z.moved hvm h.2⟩
theorem SW.kept {g : GG} {A : Nat → Prop} {U : State} {H H1 : Heap} (h : SW g A U H) (hq : ∀ a : Nat, a < H.size → ¬ A a → H1[a]? = H[a]?) : SW g A U H1 := ⟨fun i hi => ⟨(h.1 i hi).1.kept hq, (h.1 i hi).2.1.kept hq, (h.1 i hi).2.2.1.kept hq, (h.1 i hi).2.2.2.kept hq⟩, h.2.kept hq⟩
theorem SW.narrow {g : GG} {A B : Nat → Prop} {U : State} {H : Heap} (h : SW g A U H) (hAB : ∀ q, B q → A q) : SW g B U H := ⟨fun i hi => ⟨(h.1 i hi).1.narrow hAB, (h.1 i hi).2.1.narrow hAB, (h.1 i hi).2.2.1.narrow hAB, (h.1 i hi).2.2.2.narrow hAB⟩, h.2.narrow hAB⟩
def PreB (g : GG) (L : List Nat) (f : HP) (sz : Nat) (U : State) : Prop := U.heap.size = sz ∧ va_P g.1 vwCl (va_pl L f) U.heap ∧ GK g U ∧ va_D (fun _ => True) (va_pl L f) ∧ SW g (Rg L f sz) U U.heap
def PstB (g : GG) (A : Nat → Prop) (u : List Nat × HP) (t : State) : Prop := va_P g.1 vwCl (va_pl u.1 u.2) t.heap ∧ va_D A (va_pl u.1 u.2)
/-- contracts: an int, a long, nothing comes back -/
def MtI (l : Launch) (g : GG) (y : MethodName) (cc : ByteArray) (n : Nat) (ret : Option FieldType) (rm : Room) (av : List Value) (L : List Nat) (f : HP) (sz : Nat) (post : Int32 → (List Nat × HP) → Prop) : Prop :=
  Met l y (Cond.code y cc n ret :: GW) rm (va_Pc av (PreB g L f sz)) (va_Qi post (PstB g (Rg L f sz)) (Rg L f sz)) rm.cells rm.slots (Rg L f sz)
def MtL (l : Launch) (g : GG) (y : MethodName) (cc : ByteArray) (n : Nat) (ret : Option FieldType) (rm : Room) (av : List Value) (L : List Nat) (f : HP) (sz : Nat) (post : Int64 → (List Nat × HP) → Prop) : Prop :=
  Met l y (Cond.code y cc n ret :: GW) rm (va_Pc av (PreB g L f sz)) (va_Ql post (PstB g (Rg L f sz)) (Rg L f sz)) rm.cells rm.slots (Rg L f sz)
def MtV (l : Launch) (g : GG) (y : MethodName) (cc : ByteArray) (n : Nat) (rm : Room) (av : List Value) (L : List Nat) (f : HP) (sz : Nat) (post : (List Nat × HP) → Prop) : Prop :=
  Met l y (Cond.code y cc n none :: GW) rm (va_Pc av (PreB g L f sz)) (va_Qv post (PstB g (Rg L f sz)) (Rg L f sz)) rm.cells rm.slots (Rg L f sz)
/-- what a method's body stands on -/
def ENV (p : Program) (e : Env) (s : State) (m : MethodId) (av : List Value) (meth : Method) (c : Code) (y : MethodName) (cc : ByteArray) (n : Nat) (ret : Option FieldType) (g : GG) (L : List Nat) (f : HP) (A : Nat → Prop) : Prop :=
  p.tables.exec = Jvm.exec ∧ c.code = cc ∧ meth.sig.returnType = ret ∧ c.maxLocals = n ∧ s.vm.findClass y.cls = some m.cls ∧ meth.locks = false ∧ (∀ w ∈ (Cond.code y cc n ret :: GW), w.before av.toArray s = true) ∧ GK g s ∧ (∀ q, s.heap.size ≤ q → A q) ∧ SW g A s s.heap ∧ meth.name = y.name
theorem pre_blind {g : GG} {av : List Value} {L : List Nat} {f : HP} {sz : Nat} : FrameBlind (va_Pc av (PreB g L f sz)) := fun a U gg mk q => by
  obtain ⟨q0, q1, qP, qK, qD, qS⟩ := q
  exact ⟨q0, q1, qP, GK.same (s := U) (U := U.calling gg mk a) rfl qK, qD, SW.moved (u := U) (U := U.calling gg mk a) (Vm.Alike.refl U.vm) qS⟩
section START
variable {l : Launch} {g : GG} {y : MethodName} {cc : ByteArray} {n : Nat} {ret : Option FieldType} {rm : Room} {av : List Value} {L : List Nat} {f : HP} {sz : Nat}
theorem env_of {p : Program} {e : Env} {s : State} {m : MethodId} {args : Array Value} {below : List Frame} {meth : Method} {c : Code} {s₁ : State} (B : BodyLoose p l y (headSpec (Cond.code y cc n ret :: GW) rm) cc n ret e s m args below meth c s₁) (hml : c.maxLocals = n) (hv : va_Pc av (PreB g L f sz) args s) :
    args = av.toArray ∧ sz = s.heap.size ∧ va_P g.1 vwCl (va_pl L f) s.heap ∧ va_D (Rg L f sz) (va_pl L f) ∧ ENV p e s m av meth c y cc n ret g L f (Rg L f sz) := by
  obtain ⟨rfl, hsz, hP, hK, hD0, hE⟩ := hv
  subst hsz
  exact ⟨rfl, rfl, hP, hD0.self, B.exec, B.bytes, B.returns, hml, findClass_of_methodNamed B.named, B.notSynchronized, atoms_spec (ws := Cond.code y cc n ret :: GW) B.pre, hK, fun q h => Or.inr h, hE, (name_of_methodNamed B.named B.method).1⟩
theorem MtI.of {post : Int32 → (List Nat × HP) → Prop} (hy : plainName y.cls = true) (hlen : (lg_sl av).length ≤ n)
    (body : ∀ (p : Program) (e : Env) (s : State) (m : MethodId) (below : List Frame) (meth : Method) (c : Code) (A : Nat → Prop), ENV p e s m av meth c y cc n ret g L f A → va_P g.1 vwCl (va_pl L f) s.heap → va_D A (va_pl L f) → va_S A s.heap s.heap [] → ∀ ls : Array Slot, lv_has ls n (lv_args 0 av) →
      W p l e rm s m av.toArray below meth c s.heap [] 0 0 (MQ below (va_Qi post (PstB g A) A) av.toArray s rm.cells rm.slots A) (F0 m 0 ls [])) : MtI l g y cc n ret rm av L f sz post := by
  refine Met.ofW (cc := cc) (maxL := n) (ret := ret) hy rfl ?_
  intro p e s m args below meth c s₁ B hml hv
  obtain ⟨rfl, rfl, hP, hD, hE⟩ := env_of B hml hv
  have hl := lv_entry av (n := n) hlen
  rw [lg_entry_eq]
  exact body p e s m below meth c _ hE hP hD va_S.rf _ hl
theorem MtL.of {post : Int64 → (List Nat × HP) → Prop} (hy : plainName y.cls = true) (hlen : (lg_sl av).length ≤ n)
    (body : ∀ (p : Program) (e : Env) (s : State) (m : MethodId) (below : List Frame) (meth : Method) (c : Code) (A : Nat → Prop), ENV p e s m av meth c y cc n ret g L f A → va_P g.1 vwCl (va_pl L f) s.heap → va_D A (va_pl L f) → va_S A s.heap s.heap [] → ∀ ls : Array Slot, lv_has ls n (lv_args 0 av) →
      W p l e rm s m av.toArray below meth c s.heap [] 0 0 (MQ below (va_Ql post (PstB g A) A) av.toArray s rm.cells rm.slots A) (F0 m 0 ls [])) : MtL l g y cc n ret rm av L f sz post := by
  refine Met.ofW (cc := cc) (maxL := n) (ret := ret) hy rfl ?_
  intro p e s m args below meth c s₁ B hml hv
  obtain ⟨rfl, rfl, hP, hD, hE⟩ := env_of B hml hv
  have hl := lv_entry av (n := n) hlen
  rw [lg_entry_eq]
  exact body p e s m below meth c _ hE hP hD va_S.rf _ hl
theorem MtV.of {post : (List Nat × HP) → Prop} (hy : plainName y.cls = true) (hlen : (lg_sl av).length ≤ n)
    (body : ∀ (p : Program) (e : Env) (s : State) (m : MethodId) (below : List Frame) (meth : Method) (c : Code) (A : Nat → Prop), ENV p e s m av meth c y cc n none g L f A → va_P g.1 vwCl (va_pl L f) s.heap → va_D A (va_pl L f) → va_S A s.heap s.heap [] → ∀ ls : Array Slot, lv_has ls n (lv_args 0 av) →
      W p l e rm s m av.toArray below meth c s.heap [] 0 0 (MQ below (va_Qv post (PstB g A) A) av.toArray s rm.cells rm.slots A) (F0 m 0 ls [])) : MtV l g y cc n rm av L f sz post := by
  refine Met.ofW (cc := cc) (maxL := n) (ret := none) hy rfl ?_
  intro p e s m args below meth c s₁ B hml hv
  obtain ⟨rfl, rfl, hP, hD, hE⟩ := env_of B hml hv
  have hl := lv_entry av (n := n) hlen
  rw [lg_entry_eq]
  exact body p e s m below meth c _ hE hP hD va_S.rf _ hl
end START
end
section
/-! ROWS OVER THE POOL -/
theorem pl_mem {L : List Nat} {f : HP} {a : Nat} (h : a ∈ L) : ∃ k : Nat, (va_pl L f)[k]? = some (a, f a) := va_pl_get (X := []) h
theorem pl_set {A : Nat → Prop} {L : List Nat} {f : HP} {a k : Nat} {e : va_E} (hD : va_D A (va_pl L f)) (h : a ∈ L) (hk : (va_pl L f)[k]? = some (a, f a)) : (va_pl L f).set k (a, e) = va_pl L (va_up f a e) := va_pl_set (X := []) hD h hk
theorem up_at {α : Type} (f : Nat → α) (a : Nat) (v : α) : va_up f a v a = v := by simp [va_up]
theorem kne {f : HP} {a b c1 c2 : Nat} {l1 l2 : List Value} (ha : f a = .inr (c1, l1)) (hb : f b = .inr (c2, l2)) (h : c1 ≠ c2) : a ≠ b := fun e => by
  rw [e, hb] at ha
  injection ha with h1
  injection h1 with h2
  exact h h2.symm
theorem kno {f : HP} {a b c1 : Nat} {l1 : List Value} {x : ClassId × vp_A} (ha : f a = .inr (c1, l1)) (hb : f b = .inl x) : a ≠ b := fun e => by
  rw [e, hb] at ha
  cases ha
theorem knn {f : HP} {a b n1 n2 : Nat} {x1 x2 : ClassId} {y1 y2 : (Nat → Int32) ⊕ (Nat → Int64) ⊕ (Nat → UInt32) ⊕ (Nat → UInt64) ⊕ (Nat → Option Nat)} (ha : f a = .inl (x1, n1, y1)) (hb : f b = .inl (x2, n2, y2)) (h : n1 ≠ n2) : a ≠ b := fun e => by
  rw [e, hb] at ha
  injection ha with h1
  injection h1 with h2 h3
  injection h3 with h4 h5
  exact h h4.symm
section ROWS
variable {p : Program} {l : Launch} {e : Env} {R : Room} {s : State} {m : MethodId} {args : Array Value} {below : List Frame} {meth : Method} {c : Code} {H : Heap} {locs : List Loc} {cells slots : Nat} {Q : State → Prop} {cc : ByteArray} {pc : Nat} {ls : Array Slot} {rest : List Value} {D : va_G} {tys : List (ClassId × FieldType)} {L : List Nat} {f : HP} {A : Nat → Prop} {H0 : Heap} {a : Nat}
theorem pl_get (hexec : p.tables.exec = Jvm.exec) (hb : c.code = cc) {own ref C : String} {T : u_T} {N ci index : Nat} {Ts : List Cond} (hts : ∀ w ∈ Ts, w.before args s = true) (hin : ∀ w ∈ u_ws C T N, w ∈ Ts) (hown : s.vm.findClass own = some m.cls) (hK : va_K D vwCl tys s) (hP : va_P D vwCl (va_pl L f) H) (hm : a ∈ L) {fs : List Value} (hf : f a = .inr (ci, fs)) (hc : vwCl[ci]? = some (C, T, N)) (k : Nat) (hk : k < N) (hlink : (Cond.fieldLink own index ref (T k).2.1 (T k).2.2.1).before args s = true) (hsame : ∀ x, s.fieldFound? (T k).1 (T k).2.1 (T k).2.2.1 = some x → s.fieldFound? ref (T k).2.1 (T k).2.2.1 = some x) {v : Value} (hv : fs[k]? = some v) (hdg : decode cc pc = .ok (.getfield index, 3))
    (kk : W p l e R s m args below meth c H locs cells slots Q (F0 m (pc + 3) ls (v :: rest))) : W p l e R s m args below meth c H locs cells slots Q (F0 m pc ls (.ref a :: rest)) := by
  obtain ⟨q0, hq⟩ := pl_mem (f := f) hm
  rw [hf] at hq
  exact va_get hexec hb hts hin hown hK hP q0 hq hc k hk hlink hsame hv hdg kk
theorem pl_getN (hexec : p.tables.exec = Jvm.exec) (hb : c.code = cc) {own ref C host : String} {T : u_T} {N ci index : Nat} {Ts : List Cond} (hts : ∀ w ∈ Ts, w.before args s = true) (hin : ∀ w ∈ u_ws C T N, w ∈ Ts) (hown : s.vm.findClass own = some m.cls) (hK : va_K D vwCl tys s) (hP : va_P D vwCl (va_pl L f) H) (hm : a ∈ L) {fs : List Value} (hf : f a = .inr (ci, fs)) (hc : vwCl[ci]? = some (C, T, N)) (k : Nat) (hk : k < N) (hlink : va_Nw (.fieldLinkNest own index ref (T k).2.1 (T k).2.2.1 host) s) (hsame : ∀ x, s.fieldFound? (T k).1 (T k).2.1 (T k).2.2.1 = some x → s.fieldFound? ref (T k).2.1 (T k).2.2.1 = some x) {v : Value} (hv : fs[k]? = some v) (hdg : decode cc pc = .ok (.getfield index, 3))
    (kk : W p l e R s m args below meth c H locs cells slots Q (F0 m (pc + 3) ls (v :: rest))) : W p l e R s m args below meth c H locs cells slots Q (F0 m pc ls (.ref a :: rest)) := by
  obtain ⟨q0, hq⟩ := pl_mem (f := f) hm
  rw [hf] at hq
  exact va_getN hexec hb hts hin hown hK hP q0 hq hc k hk (va_Nw.use rfl hlink) hsame hv hdg kk
theorem pl_after {e1 : va_E} {q0 : Nat} {H1 : Heap} {G : Prop} (hD : va_D A (va_pl L f)) (hm : a ∈ L) (hq : (va_pl L f)[q0]? = some (a, f a)) (h1 : va_P D vwCl ((va_pl L f).set q0 (a, e1)) H1) (h2 : va_D A ((va_pl L f).set q0 (a, e1))) (kk : ∀ f1 : HP, f1 a = e1 → (∀ b, b ≠ a → f1 b = f b) → va_P D vwCl (va_pl L f1) H1 → va_D A (va_pl L f1) → G) : G := by
  rw [pl_set hD hm hq] at h1 h2
  exact kk (va_up f a e1) (up_at f a e1) (fun b hb => va_up_ne f e1 hb) h1 h2
theorem pl_put (hexec : p.tables.exec = Jvm.exec) (hb : c.code = cc) {own ref C : String} {T : u_T} {N ci index : Nat} {Ts : List Cond} (hts : ∀ w ∈ Ts, w.before args s = true) (hin : ∀ w ∈ u_ws C T N, w ∈ Ts) (ty0 : Nat → FieldType) (hty : ∀ k, k < N → parseFieldDescriptor (T k).2.2.1 = some (ty0 k)) (hnm : ∀ a, a < N → ∀ b, b < N → a ≠ b → (T a).2.1 ≠ (T b).2.1) (hown : s.vm.findClass own = some m.cls) (hK : va_K D vwCl tys s) (hP : va_P D vwCl (va_pl L f) H) (hD : va_D A (va_pl L f)) (hS0 : va_S A H0 H locs) (hm : a ∈ L) {fs : List Value} (hf : f a = .inr (ci, fs)) (hc : vwCl[ci]? = some (C, T, N)) (k : Nat) (hk : k < N) (hlink : (Cond.fieldLink own index ref (T k).2.1 (T k).2.2.1).before args s = true) (hsame : ∀ x, s.fieldFound? (T k).1 (T k).2.1 (T k).2.2.1 = some x → s.fieldFound? ref (T k).2.1 (T k).2.2.1 = some x) (hfin : (T k).2.2.2 = false) {ty : FieldType} {v : Value} (hd : parseFieldDescriptor (T k).2.2.1 = some ty) (hn : narrow ty v = v) (hfit : fits ty v = true) (hl : k < fs.length) {fs' : List Value} (hs : fs.set k v = fs')
    (hdg : decode cc pc = .ok (.putfield index, 3)) (kk : ∀ (H1 : Heap) (locs1 : List Loc) (f1 : HP), f1 a = .inr (ci, fs') → (∀ b, b ≠ a → f1 b = f b) → va_P D vwCl (va_pl L f1) H1 → va_D A (va_pl L f1) → va_S A H0 H1 locs1 → W p l e R s m args below meth c H1 locs1 cells slots Q (F0 m (pc + 3) ls rest)) : W p l e R s m args below meth c H locs cells slots Q (F0 m pc ls (v :: .ref a :: rest)) := by
  obtain ⟨q0, hq⟩ := pl_mem (f := f) hm
  have hq2 := hq
  rw [hf] at hq2
  refine va_put hexec hb hts hin ty0 hty hnm hown hK hP hD hS0 q0 hq2 hc k hk hlink hsame hfin hd hn hfit hl hdg fun H1 locs1 h1 h2 h3 => ?_
  exact pl_after hD hm hq h1 h2 (fun f1 g1 g2 g3 g4 => kk H1 locs1 f1 (by rw [g1, hs]) g2 g3 g4 h3)
theorem pl_putN (hexec : p.tables.exec = Jvm.exec) (hb : c.code = cc) {own ref C host : String} {T : u_T} {N ci index : Nat} {Ts : List Cond} (hts : ∀ w ∈ Ts, w.before args s = true) (hin : ∀ w ∈ u_ws C T N, w ∈ Ts) (ty0 : Nat → FieldType) (hty : ∀ k, k < N → parseFieldDescriptor (T k).2.2.1 = some (ty0 k)) (hnm : ∀ a, a < N → ∀ b, b < N → a ≠ b → (T a).2.1 ≠ (T b).2.1) (hown : s.vm.findClass own = some m.cls) (hK : va_K D vwCl tys s) (hP : va_P D vwCl (va_pl L f) H) (hD : va_D A (va_pl L f)) (hS0 : va_S A H0 H locs) (hm : a ∈ L) {fs : List Value} (hf : f a = .inr (ci, fs)) (hc : vwCl[ci]? = some (C, T, N)) (k : Nat) (hk : k < N) (hlink : va_Nw (.fieldLinkNest own index ref (T k).2.1 (T k).2.2.1 host) s) (hsame : ∀ x, s.fieldFound? (T k).1 (T k).2.1 (T k).2.2.1 = some x → s.fieldFound? ref (T k).2.1 (T k).2.2.1 = some x) (hfin : (T k).2.2.2 = false) {ty : FieldType} {v : Value} (hd : parseFieldDescriptor (T k).2.2.1 = some ty) (hn : narrow ty v = v) (hfit : fits ty v = true) (hl : k < fs.length) {fs' : List Value} (hs : fs.set k v = fs')
    (hdg : decode cc pc = .ok (.putfield index, 3)) (kk : ∀ (H1 : Heap) (locs1 : List Loc) (f1 : HP), f1 a = .inr (ci, fs') → (∀ b, b ≠ a → f1 b = f b) → va_P D vwCl (va_pl L f1) H1 → va_D A (va_pl L f1) → va_S A H0 H1 locs1 → W p l e R s m args below meth c H1 locs1 cells slots Q (F0 m (pc + 3) ls rest)) : W p l e R s m args below meth c H locs cells slots Q (F0 m pc ls (v :: .ref a :: rest)) := by
  obtain ⟨q0, hq⟩ := pl_mem (f := f) hm
  have hq2 := hq
  rw [hf] at hq2
  refine va_putN hexec hb hts hin ty0 hty hnm hown hK hP hD hS0 q0 hq2 hc k hk (va_Nw.use rfl hlink) hsame hfin hd hn hfit hl hdg fun H1 locs1 h1 h2 h3 => ?_
  exact pl_after hD hm hq h1 h2 (fun f1 g1 g2 g3 g4 => kk H1 locs1 f1 (by rw [g1, hs]) g2 g3 g4 h3)
theorem pl_putF (hexec : p.tables.exec = Jvm.exec) (hb : c.code = cc) {own ref C : String} {T : u_T} {N ci index : Nat} {Ts : List Cond} (hts : ∀ w ∈ Ts, w.before args s = true) (hin : ∀ w ∈ u_ws C T N, w ∈ Ts) (ty0 : Nat → FieldType) (hty : ∀ k, k < N → parseFieldDescriptor (T k).2.2.1 = some (ty0 k)) (hnm : ∀ a, a < N → ∀ b, b < N → a ≠ b → (T a).2.1 ≠ (T b).2.1) (hown : s.vm.findClass own = some m.cls) (hK : va_K D vwCl tys s) (hP : va_P D vwCl (va_pl L f) H) (hD : va_D A (va_pl L f)) (hS0 : va_S A H0 H locs) (hm : a ∈ L) {fs : List Value} (hf : f a = .inr (ci, fs)) (hc : vwCl[ci]? = some (C, T, N)) (k : Nat) (hk : k < N) (hlink : (Cond.fieldLink own index ref (T k).2.1 (T k).2.2.1).before args s = true) (hsame : ∀ x, s.fieldFound? (T k).1 (T k).2.1 (T k).2.2.1 = some x → s.fieldFound? ref (T k).2.1 (T k).2.2.1 = some x) (hfin : (T k).2.2.2 = true) (hin2 : meth.name = "<init>") (hdecl : (T k).1 = own) {ty : FieldType} {v : Value} (hd : parseFieldDescriptor (T k).2.2.1 = some ty) (hn : narrow ty v = v) (hfit : fits ty v = true) (hl : k < fs.length) {fs' : List Value} (hs : fs.set k v = fs')
    (hdg : decode cc pc = .ok (.putfield index, 3)) (kk : ∀ (H1 : Heap) (locs1 : List Loc) (f1 : HP), f1 a = .inr (ci, fs') → (∀ b, b ≠ a → f1 b = f b) → va_P D vwCl (va_pl L f1) H1 → va_D A (va_pl L f1) → va_S A H0 H1 locs1 → W p l e R s m args below meth c H1 locs1 cells slots Q (F0 m (pc + 3) ls rest)) : W p l e R s m args below meth c H locs cells slots Q (F0 m pc ls (v :: .ref a :: rest)) := by
  obtain ⟨q0, hq⟩ := pl_mem (f := f) hm
  have hq2 := hq
  rw [hf] at hq2
  refine va_putF hexec hb hts hin ty0 hty hnm hown hK hP hD hS0 q0 hq2 hc k hk hlink hsame hfin hin2 hdecl hd hn hfit hl hdg fun H1 locs1 h1 h2 h3 => ?_
  exact pl_after hD hm hq h1 h2 (fun f1 g1 g2 g3 g4 => kk H1 locs1 f1 (by rw [g1, hs]) g2 g3 g4 h3)
theorem pl_alen (hexec : p.tables.exec = Jvm.exec) (hb : c.code = cc) (hK : va_K D vwCl tys s) (hP : va_P D vwCl (va_pl L f) H) (hm : a ∈ L) (t0 : Nat) {cA : ClassId} {x : vp_A} (hf : f a = .inl (cA, x)) {ty : FieldType} (ht : tys[t0]? = some (cA, ty)) {v : Int32} (hv : Int32.ofNat x.1 = v) (hdg : decode cc pc = .ok (.arraylength, 1))
    (kk : W p l e R s m args below meth c H locs cells slots Q (F0 m (pc + 1) ls (.int v :: rest))) : W p l e R s m args below meth c H locs cells slots Q (F0 m pc ls (.ref a :: rest)) := by
  obtain ⟨q0, hq⟩ := pl_mem (f := f) hm
  rw [hf] at hq
  exact va_alen hexec hb hK hP q0 t0 hq ht hv hdg kk
theorem pl_iald (hexec : p.tables.exec = Jvm.exec) (hb : c.code = cc) (hK : va_K D vwCl tys s) (hP : va_P D vwCl (va_pl L f) H) (hm : a ∈ L) (t0 : Nat) {cA : ClassId} {n : Nat} {r : Nat → Int32} (hf : f a = .inl (cA, n, .inl r)) (ht : tys[t0]? = some (cA, .int)) {i : Int32} (hin : vp_in i n) (hdg : decode cc pc = .ok (.iaload, 1))
    (kk : W p l e R s m args below meth c H locs cells slots Q (F0 m (pc + 1) ls (.int (r i.toNatClampNeg) :: rest))) : W p l e R s m args below meth c H locs cells slots Q (F0 m pc ls (.int i :: .ref a :: rest)) := by
  obtain ⟨q0, hq⟩ := pl_mem (f := f) hm
  rw [hf] at hq
  exact va_iald hexec hb hK hP q0 t0 hq ht hin hdg kk
theorem pl_iast (hexec : p.tables.exec = Jvm.exec) (hb : c.code = cc) (hK : va_K D vwCl tys s) (hP : va_P D vwCl (va_pl L f) H) (hD : va_D A (va_pl L f)) (hS : va_S A H0 H locs) (hm : a ∈ L) (t0 : Nat) {cA : ClassId} {n : Nat} {r : Nat → Int32} (hf : f a = .inl (cA, n, .inl r)) (ht : tys[t0]? = some (cA, .int)) {i : Int32} {x : Int32} (hin : vp_in i n) (hdg : decode cc pc = .ok (.iastore, 1))
    (kk : ∀ (H1 : Heap) (locs1 : List Loc) (f1 : HP), f1 a = .inl (cA, n, .inl (upd r i.toNatClampNeg x)) → (∀ b, b ≠ a → f1 b = f b) → va_P D vwCl (va_pl L f1) H1 → va_D A (va_pl L f1) → va_S A H0 H1 locs1 → W p l e R s m args below meth c H1 locs1 cells slots Q (F0 m (pc + 1) ls rest)) : W p l e R s m args below meth c H locs cells slots Q (F0 m pc ls (.int x :: .int i :: .ref a :: rest)) := by
  obtain ⟨q0, hq⟩ := pl_mem (f := f) hm
  have hq2 := hq
  rw [hf] at hq2
  refine va_iast hexec hb hK hP hD hS q0 t0 hq2 ht hin hdg fun H1 locs1 h1 h2 h3 => ?_
  exact pl_after hD hm hq h1 h2 (fun f1 g1 g2 g3 g4 => kk H1 locs1 f1 g1 g2 g3 g4 h3)
theorem pl_bast (hexec : p.tables.exec = Jvm.exec) (hb : c.code = cc) (hK : va_K D vwCl tys s) (hP : va_P D vwCl (va_pl L f) H) (hD : va_D A (va_pl L f)) (hS : va_S A H0 H locs) (hm : a ∈ L) (t0 : Nat) {cA : ClassId} {n : Nat} {r : Nat → Int32} (hf : f a = .inl (cA, n, .inl r)) (ht : tys[t0]? = some (cA, .byte)) {i : Int32} {x : Int32} (hin : vp_in i n) (hdg : decode cc pc = .ok (.bastore, 1))
    (kk : ∀ (H1 : Heap) (locs1 : List Loc) (f1 : HP) (r1 : Nat → Int32), f1 a = .inl (cA, n, .inl r1) → (∀ b, b ≠ a → f1 b = f b) → va_P D vwCl (va_pl L f1) H1 → va_D A (va_pl L f1) → va_S A H0 H1 locs1 → W p l e R s m args below meth c H1 locs1 cells slots Q (F0 m (pc + 1) ls rest)) : W p l e R s m args below meth c H locs cells slots Q (F0 m pc ls (.int x :: .int i :: .ref a :: rest)) := by
  obtain ⟨q0, hq⟩ := pl_mem (f := f) hm
  have hq2 := hq
  rw [hf] at hq2
  refine va_bast hexec hb hK hP hD hS q0 t0 hq2 ht hin hdg fun H1 locs1 h1 h2 h3 => ?_
  exact pl_after hD hm hq h1 h2 (fun f1 g1 g2 g3 g4 => kk H1 locs1 f1 _ g1 g2 g3 g4 h3)
theorem pl_grow {e1 : va_E} {q : Nat} {H1 : Heap} {G : Prop} (h1 : va_P D vwCl (va_pl L f ++ [(q, e1)]) H1) (h2 : va_D A (va_pl L f ++ [(q, e1)])) (kk : ∀ (L1 : List Nat) (f1 : HP), q ∉ L → (∀ b, b ∈ L → b ∈ L1) → q ∈ L1 → f1 q = e1 → (∀ b, b ∈ L → f1 b = f b) → va_P D vwCl (va_pl L1 f1) H1 → va_D A (va_pl L1 f1) → G) : G := by
  have hq : q ∉ L := va_pl_fresh2 (X := []) h2
  rw [va_pl_push hq] at h1 h2
  exact kk (L ++ [q]) (va_up f q e1) hq (fun b hb => List.mem_append_left _ hb) (List.mem_append_right _ List.mem_cons_self) (up_at f q e1) (fun b hb => va_up_ne f e1 (fun e => hq (e ▸ hb))) h1 h2
theorem pl_new {c0 : Code} (hexec : p.tables.exec = Jvm.exec) (hb : c0.code = cc) {own C : String} {T : u_T} {N ci index : Nat} {Ts : List Cond} (hts : ∀ w ∈ Ts, w.before args s = true) (hin : ∀ w ∈ u_ws C T N, w ∈ Ts) (ty : Nat → FieldType) (hty : ∀ k, k < N → parseFieldDescriptor (T k).2.2.1 = some (ty k)) (hown : s.vm.findClass own = some m.cls) (hcl : (Cond.classLink own index C).before args s = true) (hinst : (Cond.instantiable C N).before args s = true) (hini : (Cond.initialized C).before args s = true)
    (hK : va_K D vwCl tys s) (hP : va_P D vwCl (va_pl L f) H) (hD : va_D A (va_pl L f)) (hS : va_S A H0 H locs) (hA : ∀ q, H0.size ≤ q → A q) (hc : vwCl[ci]? = some (C, T, N)) {fs : List Value} (hfs : ∀ j, j < N → defaultValue (ty j) = vp_V fs j) (hcells : cells + 1 ≤ R.cells) (hslots : slots + N ≤ R.slots) (hdg : decode cc pc = .ok (.new index, 3))
    (kk : ∀ (q : Nat) (H1 : Heap) (L1 : List Nat) (f1 : HP), q ∉ L → (∀ b, b ∈ L → b ∈ L1) → q ∈ L1 → f1 q = .inr (ci, fs) → (∀ b, b ∈ L → f1 b = f b) → va_P D vwCl (va_pl L1 f1) H1 → va_D A (va_pl L1 f1) → va_S A H0 H1 locs →
      W p l e R s m args below meth c0 H1 locs (cells + 1) (slots + N) Q (F0 m (pc + 3) ls (.ref q :: rest))) : W p l e R s m args below meth c0 H locs cells slots Q (F0 m pc ls rest) := by
  refine va_new hexec hb hts hin ty hty hown hcl hinst hini hK hP hD hS hA hc hfs hcells hslots hdg fun q H1 h1 h2 h3 => ?_
  exact pl_grow h1 h2 (fun L1 f1 g0 g1 g2 g3 g4 g5 g6 => kk q H1 L1 f1 g0 g1 g2 g3 g4 g5 g6 h3)
theorem pl_newa (hexec : p.tables.exec = Jvm.exec) (hb : c.code = cc) {atype : ArrayType} (harr : (Cond.arrayClass (newarray.typeOf atype)).before args s = true) {ty : FieldType} (hty : newarray.typeOf atype = ty) (hK : va_K D vwCl tys s) (hP : va_P D vwCl (va_pl L f) H) (hD : va_D A (va_pl L f)) (hS : va_S A H0 H locs) (hA : ∀ q, H0.size ≤ q → A q) (t0 : Nat) {cA0 : ClassId} (ht : tys[t0]? = some (cA0, ty)) (hnm : ∀ cA : ClassId, va_RA s cA ty → s.vm.findClass ("[" ++ ty.toString) = some cA)
    {n : Int32} {N' : Nat} {a0 : vp_A} (ha : ∀ cA : ClassId, vp_cell cA a0 = arrV cA N' (fun _ => defaultValue ty)) (hn : ¬ n < 0) (hN : n.toNatClampNeg = N') (hbytes : N' * componentBytes ty ≤ 536870912) (hcells : cells + 1 ≤ R.cells) (hslots : slots + N' ≤ R.slots) (hdg : decode cc pc = .ok (.newarray atype, 2))
    (kk : ∀ (q : Nat) (H1 : Heap) (L1 : List Nat) (f1 : HP), q ∉ L → (∀ b, b ∈ L → b ∈ L1) → q ∈ L1 → f1 q = .inl (cA0, a0) → (∀ b, b ∈ L → f1 b = f b) → va_P D vwCl (va_pl L1 f1) H1 → va_D A (va_pl L1 f1) → va_S A H0 H1 locs →
      W p l e R s m args below meth c H1 locs (cells + 1) (slots + N') Q (F0 m (pc + 2) ls (.ref q :: rest))) : W p l e R s m args below meth c H locs cells slots Q (F0 m pc ls (.int n :: rest)) := by
  refine va_newa hexec hb harr hty hK hP hD hS hA ha hn hN hbytes hcells hslots hdg fun q cA H1 h0 h1 h2 h3 => ?_
  have e1 := hnm cA ((h0.2 tys.length (cA, ty) (by simp)).2)
  have e2 := hnm cA0 ((hK.2 t0 _ ht).2)
  have e3 : cA = cA0 := Option.some.inj (e1.symm.trans e2)
  subst e3
  exact pl_grow h1 h2 (fun L1 f1 g0 g1 g2 g3 g4 g5 g6 => kk q H1 L1 f1 g0 g1 g2 g3 g4 g5 g6 h3)
theorem pl_newq (hexec : p.tables.exec = Jvm.exec) (hb : c.code = cc) {own C : String} {index : Nat} (hown : s.vm.findClass own = some m.cls) (hclink : (Cond.classLink own index C).before args s = true) (hover : va_AO C s) (hK : va_K D vwCl tys s) (hP : va_P D vwCl (va_pl L f) H) (hD : va_D A (va_pl L f)) (hS : va_S A H0 H locs) (hA : ∀ q, H0.size ≤ q → A q) (t0 : Nat) {cA0 : ClassId} (ht : tys[t0]? = some (cA0, .object C))
    {n : Int32} {N' : Nat} (hn : ¬ n < 0) (hN : n.toNatClampNeg = N') (hbytes : N' * 4 ≤ 536870912) (hcells : cells + 1 ≤ R.cells) (hslots : slots + N' ≤ R.slots) (hdg : decode cc pc = .ok (.anewarray index, 3))
    (kk : ∀ (q : Nat) (H1 : Heap) (L1 : List Nat) (f1 : HP), q ∉ L → (∀ b, b ∈ L → b ∈ L1) → q ∈ L1 → f1 q = .inl (cA0, N', .inr (.inr (.inr (.inr (fun _ => none))))) → (∀ b, b ∈ L → f1 b = f b) → va_P D vwCl (va_pl L1 f1) H1 → va_D A (va_pl L1 f1) → va_S A H0 H1 locs →
      W p l e R s m args below meth c H1 locs (cells + 1) (slots + N') Q (F0 m (pc + 3) ls (.ref q :: rest))) : W p l e R s m args below meth c H locs cells slots Q (F0 m pc ls (.int n :: rest)) := by
  refine va_newq hexec hb hown hclink hover hK hP hD hS hA hn hN hbytes hcells hslots hdg fun q cA H1 h0 h1 h2 h3 => ?_
  obtain ⟨-, -, -, -, -, e1⟩ := (h0.2 tys.length (cA, .object C) (by simp)).2
  obtain ⟨-, -, -, -, -, e2⟩ := (hK.2 t0 _ ht).2
  have e3 : cA = cA0 := Option.some.inj (e1.symm.trans e2)
  subst e3
  exact pl_grow h1 h2 (fun L1 f1 g0 g1 g2 g3 g4 g5 g6 => kk q H1 L1 f1 g0 g1 g2 g3 g4 g5 g6 h3)
theorem pl_astq (hexec : p.tables.exec = Jvm.exec) (hb : c.code = cc) (hK : va_K D vwCl tys s) (hP : va_P D vwCl (va_pl L f) H) (hD : va_D A (va_pl L f)) (hS : va_S A H0 H locs) (hm : a ∈ L) (t0 ci : Nat) {cA : ClassId} {r : vw_C} {n v : Nat} {vs : List Value} {fr : Nat → Option Nat} (hf : f a = .inl (cA, n, .inr (.inr (.inr (.inr fr))))) (ht : tys[t0]? = some (cA, .object r.1)) (hmv : v ∈ L) (hv : f v = .inr (ci, vs)) (hc : vwCl[ci]? = some r) {i : Int32} (hin : vp_in i n) (hdg : decode cc pc = .ok (.aastore, 1))
    (kk : ∀ (H1 : Heap) (locs1 : List Loc) (f1 : HP) (fr1 : Nat → Option Nat), fr1 = va_up fr i.toNatClampNeg (some v) → f1 a = .inl (cA, n, .inr (.inr (.inr (.inr fr1)))) → (∀ b, b ≠ a → f1 b = f b) → va_P D vwCl (va_pl L f1) H1 → va_D A (va_pl L f1) → va_S A H0 H1 locs1 → W p l e R s m args below meth c H1 locs1 cells slots Q (F0 m (pc + 1) ls rest)) : W p l e R s m args below meth c H locs cells slots Q (F0 m pc ls (.ref v :: .int i :: .ref a :: rest)) := by
  obtain ⟨q0, hq⟩ := pl_mem (f := f) hm
  obtain ⟨qk, hqk⟩ := pl_mem (f := f) hmv
  have hq2 := hq
  rw [hf] at hq2
  rw [hv] at hqk
  refine va_astq hexec hb hK hP hD hS q0 t0 qk ci hq2 ht hqk hc hin hdg fun H1 locs1 h1 h2 h3 => ?_
  exact pl_after hD hm hq h1 h2 (fun f1 g1 g2 g3 g4 => kk H1 locs1 f1 _ rfl g1 g2 g3 g4 h3)
theorem ret_i {g : GG} {post : Int32 → (List Nat × HP) → Prop} {mc ms : Nat} {v : Int32} {ty : FieldType} (hexec : p.tables.exec = Jvm.exec) (hb : c.code = cc) (hr : meth.sig.returnType = some ty) (hlocks : meth.locks = false) (hn : narrow ty (.int v) = .int v) (hP : va_P g.1 vwCl (va_pl L f) H) (hD : va_D A (va_pl L f)) (hS : va_S A s.heap H locs) (hc : cells ≤ mc) (hs : slots ≤ ms) (hpost : post v (L, f)) (hdg : decode cc pc = .ok (.ireturn, 1)) :
    W p l e R s m args below meth c H locs cells slots (MQ below (va_Qi post (PstB g A) A) args s mc ms A) (F0 m pc ls [.int v]) := by
  refine W.widen (k := mc) (n := ms) hc hs ?_
  exact W.zret (v := v) hexec hb hr hn (fun t ht hW => ⟨⟨v, (L, f), rfl, hpost, by rw [ht]; exact hP, hD⟩, hS.F ht⟩) hS.2.2 hdg hlocks
theorem ret_l {g : GG} {post : Int64 → (List Nat × HP) → Prop} {mc ms : Nat} {v : Int64} (hexec : p.tables.exec = Jvm.exec) (hb : c.code = cc) (hr : meth.sig.returnType = some .long) (hlocks : meth.locks = false) (hP : va_P g.1 vwCl (va_pl L f) H) (hD : va_D A (va_pl L f)) (hS : va_S A s.heap H locs) (hc : cells ≤ mc) (hs : slots ≤ ms) (hpost : post v (L, f)) (hdg : decode cc pc = .ok (.lreturn, 1)) :
    W p l e R s m args below meth c H locs cells slots (MQ below (va_Ql post (PstB g A) A) args s mc ms A) (F0 m pc ls [.long v]) := by
  refine W.widen (k := mc) (n := ms) hc hs ?_
  exact W.lret (v := v) hexec hb hr (fun t ht hW => ⟨⟨v, (L, f), rfl, hpost, by rw [ht]; exact hP, hD⟩, hS.F ht⟩) hS.2.2 hdg hlocks
theorem ret_v {g : GG} {post : (List Nat × HP) → Prop} {mc ms : Nat} (hexec : p.tables.exec = Jvm.exec) (hb : c.code = cc) (hr : meth.sig.returnType = none) (hlocks : meth.locks = false) (hP : va_P g.1 vwCl (va_pl L f) H) (hD : va_D A (va_pl L f)) (hS : va_S A s.heap H locs) (hc : cells ≤ mc) (hs : slots ≤ ms) (hpost : post (L, f)) (hdg : decode cc pc = .ok (.return_, 1)) :
    W p l e R s m args below meth c H locs cells slots (MQ below (va_Qv post (PstB g A) A) args s mc ms A) (F0 m pc ls []) := by
  refine W.widen (k := mc) (n := ms) hc hs ?_
  exact W.vret hexec hb hr (fun t ht hW => ⟨⟨(L, f), rfl, hpost, by rw [ht]; exact hP, hD⟩, hS.F ht⟩) hS.2.2 hdg hlocks
end ROWS
end
section
/-! CALLS OVER THE POOL -/
def CD (y : MethodName) (n : Nat) : Prop := y.cls ≠ "java/lang/invoke/MethodHandle" ∧ y.cls ≠ "java/lang/invoke/VarHandle" ∧ (parseMethodDescriptor y.desc).map (fun d => d.parameters.length) = some n
/-- an instance method's words; a static one's; a constructor's -/
def CV (y : MethodName) (bytes : ByteArray) (maxL : Nat) (ret : Option FieldType) (n : Nat) : Prop := Cond.code y bytes maxL ret ∈ GW ∧ Cond.initialized y.cls ∈ GW ∧ Cond.instanceMethod y ∈ GW ∧ Cond.selects y.cls y y ∈ GW ∧ CD y n
def CS (y : MethodName) (bytes : ByteArray) (maxL : Nat) (ret : Option FieldType) (n : Nat) : Prop := Cond.code y bytes maxL ret ∈ GW ∧ Cond.initialized y.cls ∈ GW ∧ Cond.static y ∈ GW ∧ CD y n
def CI (y : MethodName) (bytes : ByteArray) (maxL : Nat) (n : Nat) : Prop := Cond.code y bytes maxL none ∈ GW ∧ Cond.initialized y.cls ∈ GW ∧ Cond.instanceMethod y ∈ GW ∧ CD y n ∧ y.name = "<init>"
theorem reg_of {L : List Nat} {f : HP} {A : Nat → Prop} {H0 H : Heap} {locs : List Loc} (hD : va_D A (va_pl L f)) (hS : va_S A H0 H locs) (hA : ∀ q, H0.size ≤ q → A q) : ∀ q, Rg L f H.size q → A q := by
  intro q h
  rcases h with ⟨k, e, hk⟩ | h
  · exact hD.2 k _ hk
  · exact hA q (Nat.le_trans hS.1 h)
theorem pre_of {g : GG} {L : List Nat} {f : HP} {A : Nat → Prop} {s : State} {H : Heap} {locs : List Loc} (hG : GK g s) (hE : SW g A s s.heap) (hA : ∀ q, s.heap.size ≤ q → A q) (hP : va_P g.1 vwCl (va_pl L f) H) (hD : va_D A (va_pl L f)) (hS : va_S A s.heap H locs) : ∀ U : State, U.heap = H → s.WarmedH U.vm → PreB g L f H.size U := by
  intro U hU hW
  refine ⟨by rw [hU], by rw [hU]; exact hP, hG.warm hW, hD.weaken (fun _ _ _ _ => trivial), ?_⟩
  rw [hU]
  exact SW.moved hW.alike (SW.narrow (SW.kept hE (fun a h1 h2 => hS.2.1 a h1 h2)) (reg_of hD hS hA))
section CALLS
variable {p : Program} {l : Launch} {e : Env} {R : Room} {s : State} {m : MethodId} {args : Array Value} {below : List Frame} {meth : Method} {c : Code} {H : Heap} {locs : List Loc} {cells slots : Nat} {Q : State → Prop} {cc : ByteArray} {pc : Nat} {ls : Array Slot} {rest st : List Value} {g : GG} {L : List Nat} {f : HP} {A : Nat → Prop} {a : Nat}
variable {y : MethodName} {bytes : ByteArray} {maxL nL n index : Nat} {ret : Option FieldType} {rm : Room} {Qc : Array Value → State → Outcome → State → Prop} {free : Addr → Prop} {d0 : Cond} {own : String} {b : Nat} {As : List Value}
theorem run_V (hx : p.tables.exec = Jvm.exec) (hb : c.code = cc) (hml : c.maxLocals = nL) (hown : s.vm.findClass own = some m.cls) (hts : ∀ w ∈ d0 :: GW, w.before args s = true)
    (hM : Met l y (Cond.code y bytes maxL ret :: GW) rm (va_Pc (.ref b :: As) (PreB g L f H.size)) Qc rm.cells rm.slots free) (hv : CV y bytes maxL ret n) (hl : Cond.methodLink own index y ∈ GW) (hR : rm.frames + 1 ≤ R.frames ∧ 8 + (maxL + 11) + rm.locals ≤ R.locals)
    (hG : GK g s) (hE : SW g A s s.heap) (hA : ∀ q, s.heap.size ≤ q → A q) (hP : va_P g.1 vwCl (va_pl L f) H) (hD : va_D A (va_pl L f)) (hS : va_S A s.heap H locs)
    (hm : b ∈ L) {ci : Nat} {fs : List Value} (hf : f b = .inr (ci, fs)) {T : u_T} {N : Nat} (hc : vwCl[ci]? = some (y.cls, T, N)) (hn : As.length = n) (hsz : ls.size = nL) (hst : st = As.reverse ++ .ref b :: rest) (hW : (rest.map fun v => v.category).sum ≤ 8) (hdg : decode cc pc = .ok (.invokevirtual index, 3)) (hroom : cells + rm.cells ≤ R.cells ∧ slots + rm.slots ≤ R.slots) :
    va_Run p l e R s m args below meth c H locs cells slots rm.cells rm.slots (F0 m pc ls st) rest (Qc (Value.ref b :: As).toArray) free := by
  obtain ⟨h1, h2, h3, h4, h5⟩ := hv
  obtain ⟨q0, hq⟩ := pl_mem (f := f) hm
  rw [hf] at hq
  refine va_runV (C := y.cls) (n := n) ⟨hx, hb, hml, hown, hts⟩ hM ⟨callB_of n hts (goodIn_GW h1) rfl rfl rfl (hts _ (mT h2)) (hts _ (mT hl)) h5 hR, hts _ (mT h3), hts _ (mT h4)⟩ ⟨pre_blind, va_recv hG.1 hP hc hq, fun U hU hW => ⟨rfl, pre_of hG hE hA hP hD hS U hU hW⟩⟩ rfl hn hsz hst (lv_room hW) hdg hroom
theorem run_VN {host : String} (hx : p.tables.exec = Jvm.exec) (hb : c.code = cc) (hml : c.maxLocals = nL) (hown : s.vm.findClass own = some m.cls) (hts : ∀ w ∈ d0 :: GW, w.before args s = true)
    (hM : Met l y (Cond.code y bytes maxL ret :: GW) rm (va_Pc (.ref b :: As) (PreB g L f H.size)) Qc rm.cells rm.slots free) (hv : CV y bytes maxL ret n) (hl : Cond.methodLinkNest own index y host ∈ NW) (hR : rm.frames + 1 ≤ R.frames ∧ 8 + (maxL + 11) + rm.locals ≤ R.locals)
    (hG : GK g s) (hE : SW g A s s.heap) (hA : ∀ q, s.heap.size ≤ q → A q) (hP : va_P g.1 vwCl (va_pl L f) H) (hD : va_D A (va_pl L f)) (hS : va_S A s.heap H locs)
    (hm : b ∈ L) {ci : Nat} {fs : List Value} (hf : f b = .inr (ci, fs)) {T : u_T} {N : Nat} (hc : vwCl[ci]? = some (y.cls, T, N)) (hn : As.length = n) (hsz : ls.size = nL) (hst : st = As.reverse ++ .ref b :: rest) (hW : (rest.map fun v => v.category).sum ≤ 8) (hdg : decode cc pc = .ok (.invokevirtual index, 3)) (hroom : cells + rm.cells ≤ R.cells ∧ slots + rm.slots ≤ R.slots) :
    va_Run p l e R s m args below meth c H locs cells slots rm.cells rm.slots (F0 m pc ls st) rest (Qc (Value.ref b :: As).toArray) free := by
  obtain ⟨h1, h2, h3, h4, h5⟩ := hv
  obtain ⟨q0, hq⟩ := pl_mem (f := f) hm
  rw [hf] at hq
  refine va_runVN (C := y.cls) (n := n) ⟨hx, hb, hml, hown, hts⟩ hM ⟨va_cnB n hts (goodIn_GW h1) rfl rfl rfl (hG.2.1 _ hl) (hts _ (mT h2)) h5 hR, hts _ (mT h3), hts _ (mT h4)⟩ ⟨pre_blind, va_recv hG.1 hP hc hq, fun U hU hW => ⟨rfl, pre_of hG hE hA hP hD hS U hU hW⟩⟩ rfl hn hsz hst (lv_room hW) hdg hroom
theorem run_S (hx : p.tables.exec = Jvm.exec) (hb : c.code = cc) (hml : c.maxLocals = nL) (hown : s.vm.findClass own = some m.cls) (hts : ∀ w ∈ d0 :: GW, w.before args s = true)
    (hM : Met l y (Cond.code y bytes maxL ret :: GW) rm (va_Pc As (PreB g L f H.size)) Qc rm.cells rm.slots free) (hv : CS y bytes maxL ret n) (hl : Cond.methodLink own index y ∈ GW) (hR : rm.frames + 1 ≤ R.frames ∧ 8 + (maxL + 11) + rm.locals ≤ R.locals)
    (hG : GK g s) (hE : SW g A s s.heap) (hA : ∀ q, s.heap.size ≤ q → A q) (hP : va_P g.1 vwCl (va_pl L f) H) (hD : va_D A (va_pl L f)) (hS : va_S A s.heap H locs)
    (hn : As.length = n) (hsz : ls.size = nL) (hst : st = As.reverse ++ rest) (hW : (rest.map fun v => v.category).sum ≤ 8) (hdg : decode cc pc = .ok (.invokestatic index, 3)) (hroom : cells + rm.cells ≤ R.cells ∧ slots + rm.slots ≤ R.slots) :
    va_Run p l e R s m args below meth c H locs cells slots rm.cells rm.slots (F0 m pc ls st) rest (Qc As.toArray) free := by
  obtain ⟨h1, h2, h3, h5⟩ := hv
  refine va_runS (n := n) ⟨hx, hb, hml, hown, hts⟩ hM ⟨callB_of n hts (goodIn_GW h1) rfl rfl rfl (hts _ (mT h2)) (hts _ (mT hl)) h5 hR, hts _ (mT h3)⟩ ⟨pre_blind, fun U hU hW => ⟨rfl, pre_of hG hE hA hP hD hS U hU hW⟩⟩ rfl hn hsz hst (lv_room hW) hdg hroom
theorem run_SN {host : String} (hx : p.tables.exec = Jvm.exec) (hb : c.code = cc) (hml : c.maxLocals = nL) (hown : s.vm.findClass own = some m.cls) (hts : ∀ w ∈ d0 :: GW, w.before args s = true)
    (hM : Met l y (Cond.code y bytes maxL ret :: GW) rm (va_Pc As (PreB g L f H.size)) Qc rm.cells rm.slots free) (hv : CS y bytes maxL ret n) (hl : Cond.methodLinkNest own index y host ∈ NW) (hR : rm.frames + 1 ≤ R.frames ∧ 8 + (maxL + 11) + rm.locals ≤ R.locals)
    (hG : GK g s) (hE : SW g A s s.heap) (hA : ∀ q, s.heap.size ≤ q → A q) (hP : va_P g.1 vwCl (va_pl L f) H) (hD : va_D A (va_pl L f)) (hS : va_S A s.heap H locs)
    (hn : As.length = n) (hsz : ls.size = nL) (hst : st = As.reverse ++ rest) (hW : (rest.map fun v => v.category).sum ≤ 8) (hdg : decode cc pc = .ok (.invokestatic index, 3)) (hroom : cells + rm.cells ≤ R.cells ∧ slots + rm.slots ≤ R.slots) :
    va_Run p l e R s m args below meth c H locs cells slots rm.cells rm.slots (F0 m pc ls st) rest (Qc As.toArray) free := by
  obtain ⟨h1, h2, h3, h5⟩ := hv
  refine va_runSN (n := n) ⟨hx, hb, hml, hown, hts⟩ hM ⟨va_cnB n hts (goodIn_GW h1) rfl rfl rfl (hG.2.1 _ hl) (hts _ (mT h2)) h5 hR, hts _ (mT h3), trivial⟩ ⟨pre_blind, fun U hU hW => ⟨rfl, pre_of hG hE hA hP hD hS U hU hW⟩⟩ rfl hn hsz hst (lv_room hW) hdg hroom
theorem run_I (hx : p.tables.exec = Jvm.exec) (hb : c.code = cc) (hml : c.maxLocals = nL) (hown : s.vm.findClass own = some m.cls) (hts : ∀ w ∈ d0 :: GW, w.before args s = true)
    (hM : Met l y (Cond.code y bytes maxL none :: GW) rm (va_Pc (.ref b :: As) (PreB g L f H.size)) Qc rm.cells rm.slots free) (hv : CI y bytes maxL n) (hl : Cond.methodLink own index y ∈ GW) (hR : rm.frames + 1 ≤ R.frames ∧ 8 + (maxL + 11) + rm.locals ≤ R.locals)
    (hG : GK g s) (hE : SW g A s s.heap) (hA : ∀ q, s.heap.size ≤ q → A q) (hP : va_P g.1 vwCl (va_pl L f) H) (hD : va_D A (va_pl L f)) (hS : va_S A s.heap H locs)
    (hn : As.length = n) (hsz : ls.size = nL) (hst : st = As.reverse ++ .ref b :: rest) (hW : (rest.map fun v => v.category).sum ≤ 8) (hdg : decode cc pc = .ok (.invokespecial index, 3)) (hroom : cells + rm.cells ≤ R.cells ∧ slots + rm.slots ≤ R.slots) :
    va_Run p l e R s m args below meth c H locs cells slots rm.cells rm.slots (F0 m pc ls st) rest (Qc (Value.ref b :: As).toArray) free := by
  obtain ⟨h1, h2, h3, h5, h6⟩ := hv
  refine va_runI (n := n) ⟨hx, hb, hml, hown, hts⟩ hM ⟨callB_of n hts (goodIn_GW h1) rfl rfl rfl (hts _ (mT h2)) (hts _ (mT hl)) h5 hR, h6, hts _ (mT h3)⟩ ⟨pre_blind, fun U hU hW => ⟨rfl, pre_of hG hE hA hP hD hS U hU hW⟩⟩ rfl hn hsz hst (lv_room hW) hdg hroom
theorem run_IN {host : String} (hx : p.tables.exec = Jvm.exec) (hb : c.code = cc) (hml : c.maxLocals = nL) (hown : s.vm.findClass own = some m.cls) (hts : ∀ w ∈ d0 :: GW, w.before args s = true)
    (hM : Met l y (Cond.code y bytes maxL none :: GW) rm (va_Pc (.ref b :: As) (PreB g L f H.size)) Qc rm.cells rm.slots free) (hv : CI y bytes maxL n) (hl : Cond.methodLinkNest own index y host ∈ NW) (hR : rm.frames + 1 ≤ R.frames ∧ 8 + (maxL + 11) + rm.locals ≤ R.locals)
    (hG : GK g s) (hE : SW g A s s.heap) (hA : ∀ q, s.heap.size ≤ q → A q) (hP : va_P g.1 vwCl (va_pl L f) H) (hD : va_D A (va_pl L f)) (hS : va_S A s.heap H locs)
    (hn : As.length = n) (hsz : ls.size = nL) (hst : st = As.reverse ++ .ref b :: rest) (hW : (rest.map fun v => v.category).sum ≤ 8) (hdg : decode cc pc = .ok (.invokespecial index, 3)) (hroom : cells + rm.cells ≤ R.cells ∧ slots + rm.slots ≤ R.slots) :
    va_Run p l e R s m args below meth c H locs cells slots rm.cells rm.slots (F0 m pc ls st) rest (Qc (Value.ref b :: As).toArray) free := by
  obtain ⟨h1, h2, h3, h5, h6⟩ := hv
  refine va_runIN (n := n) ⟨hx, hb, hml, hown, hts⟩ hM ⟨va_cnB n hts (goodIn_GW h1) rfl rfl rfl (hG.2.1 _ hl) (hts _ (mT h2)) h5 hR, h6, hts _ (mT h3)⟩ ⟨pre_blind, fun U hU hW => ⟨rfl, pre_of hG hE hA hP hD hS U hU hW⟩⟩ rfl hn hsz hst (lv_room hW) hdg hroom
theorem call_i {post : Int32 → (List Nat × HP) → Prop} {mc ms : Nat} {aa : Array Value} {H0 : Heap} (hr : va_Run p l e R s m args below meth c H locs cells slots mc ms (F0 m pc ls st) rest (va_Qi post (PstB g (Rg L f H.size)) (Rg L f H.size) aa) (Rg L f H.size)) (hA : ∀ q, H0.size ≤ q → A q) (hD : va_D A (va_pl L f)) (hS : va_S A H0 H locs)
    (kk : ∀ (r : Int32) (L1 : List Nat) (f1 : HP) (H1 : Heap) (locs1 : List Loc), post r (L1, f1) → va_P g.1 vwCl (va_pl L1 f1) H1 → va_D A (va_pl L1 f1) → va_S A H0 H1 locs1 → W p l e R s m args below meth c H1 locs1 (cells + mc) (slots + ms) Q (F0 m (pc + 3) ls (.int r :: rest))) : W p l e R s m args below meth c H locs cells slots Q (F0 m pc ls st) := by
  have hF := reg_of hD hS hA
  refine va_calli hr hS (fun q _ h => hF q h) hF (fun r u t H1 locs1 ht hvm hw hB hz1 hk1 hS1 => ?_)
  obtain ⟨hP1, hD1⟩ := hB
  rw [ht] at hP1
  exact kk r u.1 u.2 H1 locs1 hw hP1 (hD1.weaken (fun _ q _ h => hF q.1 h)) hS1
theorem call_l {post : Int64 → (List Nat × HP) → Prop} {mc ms : Nat} {aa : Array Value} {H0 : Heap} (hr : va_Run p l e R s m args below meth c H locs cells slots mc ms (F0 m pc ls st) rest (va_Ql post (PstB g (Rg L f H.size)) (Rg L f H.size) aa) (Rg L f H.size)) (hA : ∀ q, H0.size ≤ q → A q) (hD : va_D A (va_pl L f)) (hS : va_S A H0 H locs)
    (kk : ∀ (r : Int64) (L1 : List Nat) (f1 : HP) (H1 : Heap) (locs1 : List Loc), post r (L1, f1) → va_P g.1 vwCl (va_pl L1 f1) H1 → va_D A (va_pl L1 f1) → va_S A H0 H1 locs1 → W p l e R s m args below meth c H1 locs1 (cells + mc) (slots + ms) Q (F0 m (pc + 3) ls (.long r :: rest))) : W p l e R s m args below meth c H locs cells slots Q (F0 m pc ls st) := by
  have hF := reg_of hD hS hA
  refine va_calll hr hS (fun q _ h => hF q h) hF (fun r u t H1 locs1 ht hvm hw hB hz1 hk1 hS1 => ?_)
  obtain ⟨hP1, hD1⟩ := hB
  rw [ht] at hP1
  exact kk r u.1 u.2 H1 locs1 hw hP1 (hD1.weaken (fun _ q _ h => hF q.1 h)) hS1
theorem call_v {post : (List Nat × HP) → Prop} {mc ms : Nat} {aa : Array Value} {H0 : Heap} (hr : va_Run p l e R s m args below meth c H locs cells slots mc ms (F0 m pc ls st) rest (va_Qv post (PstB g (Rg L f H.size)) (Rg L f H.size) aa) (Rg L f H.size)) (hA : ∀ q, H0.size ≤ q → A q) (hD : va_D A (va_pl L f)) (hS : va_S A H0 H locs)
    (kk : ∀ (L1 : List Nat) (f1 : HP) (H1 : Heap) (locs1 : List Loc), post (L1, f1) → va_P g.1 vwCl (va_pl L1 f1) H1 → va_D A (va_pl L1 f1) → va_S A H0 H1 locs1 → W p l e R s m args below meth c H1 locs1 (cells + mc) (slots + ms) Q (F0 m (pc + 3) ls rest)) : W p l e R s m args below meth c H locs cells slots Q (F0 m pc ls st) := by
  have hF := reg_of hD hS hA
  refine va_callv hr hS (fun q _ h => hF q h) hF (fun u t H1 locs1 ht hvm hw hB hz1 hk1 hS1 => ?_)
  obtain ⟨hP1, hD1⟩ := hB
  rw [ht] at hP1
  exact kk u.1 u.2 H1 locs1 hw hP1 (hD1.weaken (fun _ q _ h => hF q.1 h)) hS1
end CALLS
/-! a reference comes back; a String is asked -/
def MtR (l : Launch) (g : GG) (y : MethodName) (cc : ByteArray) (n : Nat) (ret : Option FieldType) (rm : Room) (av : List Value) (L : List Nat) (f : HP) (sz : Nat) (post : Nat → (List Nat × HP) → Prop) : Prop :=
  Met l y (Cond.code y cc n ret :: GW) rm (va_Pc av (PreB g L f sz)) (va_Qr (fun _ : List Nat × HP => True) (fun u a t => PstB g (Rg L f sz) u t ∧ post a u) (Rg L f sz)) rm.cells rm.slots (Rg L f sz)
theorem MtR.of {l : Launch} {g : GG} {y : MethodName} {cc : ByteArray} {n : Nat} {ret : Option FieldType} {rm : Room} {av : List Value} {L : List Nat} {f : HP} {sz : Nat} {post : Nat → (List Nat × HP) → Prop} (hy : plainName y.cls = true) (hlen : (lg_sl av).length ≤ n)
    (body : ∀ (p : Program) (e : Env) (s : State) (m : MethodId) (below : List Frame) (meth : Method) (c : Code) (A : Nat → Prop), ENV p e s m av meth c y cc n ret g L f A → va_P g.1 vwCl (va_pl L f) s.heap → va_D A (va_pl L f) → va_S A s.heap s.heap [] → ∀ ls : Array Slot, lv_has ls n (lv_args 0 av) →
      W p l e rm s m av.toArray below meth c s.heap [] 0 0 (MQ below (va_Qr (fun _ : List Nat × HP => True) (fun u a t => PstB g A u t ∧ post a u) A) av.toArray s rm.cells rm.slots A) (F0 m 0 ls [])) : MtR l g y cc n ret rm av L f sz post := by
  refine Met.ofW (cc := cc) (maxL := n) (ret := ret) hy rfl ?_
  intro p e s m args below meth c s₁ B hml hv
  obtain ⟨rfl, rfl, hP, hD, hE⟩ := env_of B hml hv
  have hl := lv_entry av (n := n) hlen
  rw [lg_entry_eq]
  exact body p e s m below meth c _ hE hP hD va_S.rf _ hl
section CALLS2
variable {p : Program} {l : Launch} {e : Env} {R : Room} {s : State} {m : MethodId} {args : Array Value} {below : List Frame} {meth : Method} {c : Code} {H : Heap} {locs : List Loc} {cells slots : Nat} {Q : State → Prop} {cc : ByteArray} {pc : Nat} {ls : Array Slot} {rest st : List Value} {g : GG} {L : List Nat} {f : HP} {A : Nat → Prop} {a : Nat}
variable {y : MethodName} {bytes : ByteArray} {maxL nL n index : Nat} {ret : Option FieldType} {rm : Room} {Qc : Array Value → State → Outcome → State → Prop} {free : Addr → Prop} {d0 : Cond} {own : String} {b : Nat} {As : List Value}
theorem call_r {post : Nat → (List Nat × HP) → Prop} {mc ms : Nat} {aa : Array Value} {H0 : Heap} (hr : va_Run p l e R s m args below meth c H locs cells slots mc ms (F0 m pc ls st) rest (va_Qr (fun _ : List Nat × HP => True) (fun u a t => PstB g (Rg L f H.size) u t ∧ post a u) (Rg L f H.size) aa) (Rg L f H.size)) (hA : ∀ q, H0.size ≤ q → A q) (hD : va_D A (va_pl L f)) (hS : va_S A H0 H locs)
    (kk : ∀ (r : Nat) (L1 : List Nat) (f1 : HP) (H1 : Heap) (locs1 : List Loc), post r (L1, f1) → va_P g.1 vwCl (va_pl L1 f1) H1 → va_D A (va_pl L1 f1) → va_S A H0 H1 locs1 → W p l e R s m args below meth c H1 locs1 (cells + mc) (slots + ms) Q (F0 m (pc + 3) ls (.ref r :: rest))) : W p l e R s m args below meth c H locs cells slots Q (F0 m pc ls st) := by
  have hF := reg_of hD hS hA
  refine va_callr hr hS (fun q _ h => hF q h) hF ?_
  intro u r t H1 locs1 ht hvm hw hB hz1 hk1 hS1
  obtain ⟨⟨hP1, hD1⟩, hpo⟩ := hB
  rw [ht] at hP1
  exact kk r u.1 u.2 H1 locs1 hpo hP1 (hD1.weaken (fun _ q _ h => hF q.1 h)) hS1
theorem ret_r {post : Nat → (List Nat × HP) → Prop} {mc ms : Nat} {v : Nat} {ty : FieldType} (hexec : p.tables.exec = Jvm.exec) (hb : c.code = cc) (hr : meth.sig.returnType = some ty) (hlocks : meth.locks = false) (hn : (∃ n, ty = FieldType.object n) ∨ ∃ t : FieldType, ty = t.array) (hP : va_P g.1 vwCl (va_pl L f) H) (hD : va_D A (va_pl L f)) (hS : va_S A s.heap H locs) (hc : cells ≤ mc) (hs : slots ≤ ms) (hpost : post v (L, f)) (hdg : decode cc pc = .ok (.areturn, 1)) :
    W p l e R s m args below meth c H locs cells slots (MQ below (va_Qr (fun _ : List Nat × HP => True) (fun u a t => PstB g A u t ∧ post a u) A) args s mc ms A) (F0 m pc ls [.ref v]) := by
  refine W.widen (k := mc) (n := ms) hc hs ?_
  exact W.aret (v := .ref v) hexec hb hr hn (Or.inr ⟨v, rfl⟩) (fun t ht hW => ⟨⟨(L, f), v, rfl, trivial, ⟨by rw [ht]; exact hP, hD⟩, hpost⟩, hS.F ht⟩) hS.2.2 hdg hlocks
/-- a method of a String constant -/
theorem run_VJ (hx : p.tables.exec = Jvm.exec) (hb : c.code = cc) (hml : c.maxLocals = nL) (hown : s.vm.findClass own = some m.cls) (hts : ∀ w ∈ d0 :: GW, w.before args s = true)
    {i : Nat} (hi : i < nS) (hM : Met l y (Cond.code y bytes maxL ret :: GW) rm (va_Pc (.ref (g.2.2.1 i) :: As) (PreB g L f H.size)) Qc rm.cells rm.slots free) (hv : CV y bytes maxL ret n) (hl : Cond.methodLink own index y ∈ GW) (hyc : y.cls = "java/lang/String") (hR : rm.frames + 1 ≤ R.frames ∧ 8 + (maxL + 11) + rm.locals ≤ R.locals)
    (hG : GK g s) (hE : SW g A s s.heap) (hA : ∀ q, s.heap.size ≤ q → A q) (hP : va_P g.1 vwCl (va_pl L f) H) (hD : va_D A (va_pl L f)) (hS : va_S A s.heap H locs)
    (hn : As.length = n) (hsz : ls.size = nL) (hst : st = As.reverse ++ .ref (g.2.2.1 i) :: rest) (hW : (rest.map fun v => v.category).sum ≤ 8) (hdg : decode cc pc = .ok (.invokevirtual index, 3)) (hroom : cells + rm.cells ≤ R.cells ∧ slots + rm.slots ≤ R.slots) :
    va_Run p l e R s m args below meth c H locs cells slots rm.cells rm.slots (F0 m pc ls st) rest (Qc (Value.ref (g.2.2.1 i) :: As).toArray) free := by
  obtain ⟨h1, h2, h3, h4, h5⟩ := hv
  obtain ⟨cell, g1, g2, g3, -⟩ := ((hE.1 i hi).1).kept (fun a h1 h2 => hS.2.1 a h1 h2)
  refine va_runV (C := y.cls) (n := n) ⟨hx, hb, hml, hown, hts⟩ hM ⟨callB_of n hts (goodIn_GW h1) rfl rfl rfl (hts _ (mT h2)) (hts _ (mT hl)) h5 hR, hts _ (mT h3), hts _ (mT h4)⟩ ⟨pre_blind, ⟨cell, g1, g2, by rw [hyc]; exact g3⟩, fun U hU hW => ⟨rfl, pre_of hG hE hA hP hD hS U hU hW⟩⟩ rfl hn hsz hst (lv_room hW) hdg hroom
end CALLS2
end
section
theorem wg_objInit : Cond.code objectInit ⟨#[0xb1]⟩ 1 none ∈ GW := mG 188 (by decide +kernel) rfl
theorem wg_490 : Cond.fieldLink "RulerWord" 108 "RulerWord" "convened" "Z" ∈ GW := mG 490 (by decide +kernel) rfl
theorem inX10 : ∀ w ∈ u_ws RX10 TX10 18, w ∈ GW := by
  have h : (u_ws RX10 TX10 18).all (fun w => decide (w ∈ lw_tbl) && goodWord w) = true := by decide +kernel
  intro w hw
  have h1 := List.all_eq_true.mp h w hw
  simp only [Bool.and_eq_true, decide_eq_true_eq] at h1
  exact List.mem_filter.mpr h1
theorem wg_956 : Cond.methodLink "RulerWord" 273 yX10_phasesOver ∈ GW := mG 956 (by decide +kernel) rfl
theorem wg_157 : Cond.initialized "RulerWord" ∈ GW := mG 157 (by decide +kernel) rfl
theorem wg_958 : Cond.instanceMethod yX10_phasesOver ∈ GW := mG 958 (by decide +kernel) rfl
theorem wg_55 : Cond.selects "RulerWord" yX10_phasesOver yX10_phasesOver ∈ GW := mG 55 (by decide +kernel) rfl
theorem cV_X10_phasesOver : CV yX10_phasesOver cX10_phasesOver 1 (some .int) 0 := ⟨mG 959 (by decide +kernel) rfl, wg_157, wg_958, wg_55, by decide +kernel, by decide +kernel, by decide +kernel⟩
theorem wg_489 : Cond.fieldLink "RulerWord" 87 "RulerWord" "refused" "[I" ∈ GW := mG 489 (by decide +kernel) rfl
theorem wg_228 : Cond.fieldLink "RulerWord$Council" 15 "RulerWord$Council" "size" "I" ∈ GW := mG 228 (by decide +kernel) rfl
theorem inX2 : ∀ w ∈ u_ws RX2 TX2 8, w ∈ GW := by
  have h : (u_ws RX2 TX2 8).all (fun w => decide (w ∈ lw_tbl) && goodWord w) = true := by decide +kernel
  intro w hw
  have h1 := List.all_eq_true.mp h w hw
  simp only [Bool.and_eq_true, decide_eq_true_eq] at h1
  exact List.mem_filter.mpr h1
theorem wg_224 : Cond.fieldLink "RulerWord$Council" 9 "RulerWord$Council" "form" "I" ∈ GW := mG 224 (by decide +kernel) rfl
theorem wg_738 : Cond.methodLink "RulerWord$Council" 112 yX2_rounds ∈ GW := mG 738 (by decide +kernel) rfl
theorem wg_159 : Cond.initialized "RulerWord$Council" ∈ GW := mG 159 (by decide +kernel) rfl
theorem wg_740 : Cond.instanceMethod yX2_rounds ∈ GW := mG 740 (by decide +kernel) rfl
theorem wg_21 : Cond.selects "RulerWord$Council" yX2_rounds yX2_rounds ∈ GW := mG 21 (by decide +kernel) rfl
theorem cV_X2_rounds : CV yX2_rounds cX2_rounds 1 (some .int) 0 := ⟨mG 741 (by decide +kernel) rfl, wg_159, wg_740, wg_21, by decide +kernel, by decide +kernel, by decide +kernel⟩
theorem wg_340 : Cond.fieldLink "RulerWord$Course" 47 "RulerWord$Course" "gone" "I" ∈ GW := mG 340 (by decide +kernel) rfl
theorem inX3 : ∀ w ∈ u_ws RX3 TX3 18, w ∈ GW := by
  have h : (u_ws RX3 TX3 18).all (fun w => decide (w ∈ lw_tbl) && goodWord w) = true := by decide +kernel
  intro w hw
  have h1 := List.all_eq_true.mp h w hw
  simp only [Bool.and_eq_true, decide_eq_true_eq] at h1
  exact List.mem_filter.mpr h1
theorem wn_775 : Cond.methodLinkNest "RulerWord$Course" 89 yX2_phaseAt "RulerWord" ∈ NW := mN 775 (by decide +kernel) rfl
theorem wg_736 : Cond.instanceMethod yX2_phaseAt ∈ GW := mG 736 (by decide +kernel) rfl
theorem wg_20 : Cond.selects "RulerWord$Council" yX2_phaseAt yX2_phaseAt ∈ GW := mG 20 (by decide +kernel) rfl
theorem cV_X2_phaseAt : CV yX2_phaseAt cX2_phaseAt 2 (some .int) 1 := ⟨mG 737 (by decide +kernel) rfl, wg_159, wg_736, wg_20, by decide +kernel, by decide +kernel, by decide +kernel⟩
theorem wg_415 : Cond.fieldLink "RulerWord$Acts" 24 "RulerWord$Acts" "depth" "I" ∈ GW := mG 415 (by decide +kernel) rfl
theorem inX0 : ∀ w ∈ u_ws RX0 TX0 3, w ∈ GW := by
  have h : (u_ws RX0 TX0 3).all (fun w => decide (w ∈ lw_tbl) && goodWord w) = true := by decide +kernel
  intro w hw
  have h1 := List.all_eq_true.mp h w hw
  simp only [Bool.and_eq_true, decide_eq_true_eq] at h1
  exact List.mem_filter.mpr h1
theorem wg_751 : Cond.methodLink "RulerWord" 183 yX10_roundsLeft ∈ GW := mG 751 (by decide +kernel) rfl
theorem wg_753 : Cond.instanceMethod yX10_roundsLeft ∈ GW := mG 753 (by decide +kernel) rfl
theorem wg_23 : Cond.selects "RulerWord" yX10_roundsLeft yX10_roundsLeft ∈ GW := mG 23 (by decide +kernel) rfl
theorem cV_X10_roundsLeft : CV yX10_roundsLeft cX10_roundsLeft 1 (some .int) 0 := ⟨mG 754 (by decide +kernel) rfl, wg_157, wg_753, wg_23, by decide +kernel, by decide +kernel, by decide +kernel⟩
theorem wg_897 : Cond.methodLink "RulerWord" 217 yX10_isPeer ∈ GW := mG 897 (by decide +kernel) rfl
theorem wg_899 : Cond.instanceMethod yX10_isPeer ∈ GW := mG 899 (by decide +kernel) rfl
theorem wg_46 : Cond.selects "RulerWord" yX10_isPeer yX10_isPeer ∈ GW := mG 46 (by decide +kernel) rfl
theorem cV_X10_isPeer : CV yX10_isPeer cX10_isPeer 2 (some .boolean) 1 := ⟨mG 900 (by decide +kernel) rfl, wg_157, wg_899, wg_46, by decide +kernel, by decide +kernel, by decide +kernel⟩
theorem wg_475 : Cond.fieldLink "RulerWord" 10 "RulerWord" "tape" "LRulerWord$Tape;" ∈ GW := mG 475 (by decide +kernel) rfl
theorem wn_197 : Cond.fieldLinkNest "RulerWord" 91 "RulerWord$Tape" "length" "I" "RulerWord" ∈ NW := mN 197 (by decide +kernel) rfl
theorem inX8 : ∀ w ∈ u_ws RX8 TX8 5, w ∈ GW := by
  have h : (u_ws RX8 TX8 5).all (fun w => decide (w ∈ lw_tbl) && goodWord w) = true := by decide +kernel
  intro w hw
  have h1 := List.all_eq_true.mp h w hw
  simp only [Bool.and_eq_true, decide_eq_true_eq] at h1
  exact List.mem_filter.mpr h1
theorem wg_733 : Cond.constant "RulerWord" 144 (-1000000) ∈ GW := mG 733 (by decide +kernel) rfl
theorem wg_480 : Cond.fieldLink "RulerWord" 39 "RulerWord" "planned" "LRulerWord$Planned;" ∈ GW := mG 480 (by decide +kernel) rfl
theorem wn_289 : Cond.fieldLinkNest "RulerWord" 135 "RulerWord$Planned" "plan" "LRulerWord$Plan;" "RulerWord" ∈ NW := mN 289 (by decide +kernel) rfl
theorem inX6 : ∀ w ∈ u_ws RX6 TX6 3, w ∈ GW := by
  have h : (u_ws RX6 TX6 3).all (fun w => decide (w ∈ lw_tbl) && goodWord w) = true := by decide +kernel
  intro w hw
  have h1 := List.all_eq_true.mp h w hw
  simp only [Bool.and_eq_true, decide_eq_true_eq] at h1
  exact List.mem_filter.mpr h1
theorem wn_271 : Cond.fieldLinkNest "RulerWord" 141 "RulerWord$Plan" "lines" "I" "RulerWord" ∈ NW := mN 271 (by decide +kernel) rfl
theorem inX5 : ∀ w ∈ u_ws RX5 TX5 2, w ∈ GW := by
  have h : (u_ws RX5 TX5 2).all (fun w => decide (w ∈ lw_tbl) && goodWord w) = true := by decide +kernel
  intro w hw
  have h1 := List.all_eq_true.mp h w hw
  simp only [Bool.and_eq_true, decide_eq_true_eq] at h1
  exact List.mem_filter.mpr h1
theorem wg_889 : Cond.methodLink "RulerWord" 194 yX10_whyNotSaid ∈ GW := mG 889 (by decide +kernel) rfl
theorem wg_891 : Cond.instanceMethod yX10_whyNotSaid ∈ GW := mG 891 (by decide +kernel) rfl
theorem wg_44 : Cond.selects "RulerWord" yX10_whyNotSaid yX10_whyNotSaid ∈ GW := mG 44 (by decide +kernel) rfl
theorem cV_X10_whyNotSaid : CV yX10_whyNotSaid cX10_whyNotSaid 6 (some .int) 5 := ⟨mG 892 (by decide +kernel) rfl, wg_157, wg_891, wg_44, by decide +kernel, by decide +kernel, by decide +kernel⟩
theorem wg_906 : Cond.methodLink "RulerWord" 198 yX10_refuse ∈ GW := mG 906 (by decide +kernel) rfl
theorem wg_908 : Cond.instanceMethod yX10_refuse ∈ GW := mG 908 (by decide +kernel) rfl
theorem wg_48 : Cond.selects "RulerWord" yX10_refuse yX10_refuse ∈ GW := mG 48 (by decide +kernel) rfl
theorem cV_X10_refuse : CV yX10_refuse cX10_refuse 2 (some .int) 1 := ⟨mG 909 (by decide +kernel) rfl, wg_157, wg_908, wg_48, by decide +kernel, by decide +kernel, by decide +kernel⟩
theorem wg_477 : Cond.fieldLink "RulerWord" 23 "RulerWord" "council" "LRulerWord$Council;" ∈ GW := mG 477 (by decide +kernel) rfl
theorem wn_918 : Cond.methodLinkNest "RulerWord" 205 yX2_everybody "RulerWord" ∈ NW := mN 918 (by decide +kernel) rfl
theorem wg_920 : Cond.instanceMethod yX2_everybody ∈ GW := mG 920 (by decide +kernel) rfl
theorem wg_50 : Cond.selects "RulerWord$Council" yX2_everybody yX2_everybody ∈ GW := mG 50 (by decide +kernel) rfl
theorem cV_X2_everybody : CV yX2_everybody cX2_everybody 1 (some .int) 0 := ⟨mG 921 (by decide +kernel) rfl, wg_159, wg_920, wg_50, by decide +kernel, by decide +kernel, by decide +kernel⟩
theorem wg_922 : Cond.methodLink "RulerWord" 208 yX10_whyNotTold ∈ GW := mG 922 (by decide +kernel) rfl
theorem wg_924 : Cond.instanceMethod yX10_whyNotTold ∈ GW := mG 924 (by decide +kernel) rfl
theorem wg_51 : Cond.selects "RulerWord" yX10_whyNotTold yX10_whyNotTold ∈ GW := mG 51 (by decide +kernel) rfl
theorem cV_X10_whyNotTold : CV yX10_whyNotTold cX10_whyNotTold 3 (some .int) 2 := ⟨mG 925 (by decide +kernel) rfl, wg_157, wg_924, wg_51, by decide +kernel, by decide +kernel, by decide +kernel⟩
theorem wg_483 : Cond.fieldLink "RulerWord" 60 "RulerWord" "now" "LRulerWord$Course;" ∈ GW := mG 483 (by decide +kernel) rfl
theorem wn_968 : Cond.methodLinkNest "RulerWord" 269 yX3_agreedFrom "RulerWord" ∈ NW := mN 968 (by decide +kernel) rfl
theorem wg_165 : Cond.initialized "RulerWord$Course" ∈ GW := mG 165 (by decide +kernel) rfl
theorem wg_970 : Cond.instanceMethod yX3_agreedFrom ∈ GW := mG 970 (by decide +kernel) rfl
theorem wg_56 : Cond.selects "RulerWord$Course" yX3_agreedFrom yX3_agreedFrom ∈ GW := mG 56 (by decide +kernel) rfl
theorem cV_X3_agreedFrom : CV yX3_agreedFrom cX3_agreedFrom 4 (some .int) 1 := ⟨mG 971 (by decide +kernel) rfl, wg_165, wg_970, wg_56, by decide +kernel, by decide +kernel, by decide +kernel⟩
theorem wg_1013 : Cond.methodLink "RulerWord" 303 yX10_greatestBound ∈ GW := mG 1013 (by decide +kernel) rfl
theorem wg_674 : Cond.static yX10_greatestBound ∈ GW := mG 674 (by decide +kernel) rfl
theorem cS_X10_greatestBound : CS yX10_greatestBound cX10_greatestBound 2 (some .int) 2 := ⟨mG 675 (by decide +kernel) rfl, wg_157, wg_674, by decide +kernel, by decide +kernel, by decide +kernel⟩
theorem wn_339 : Cond.fieldLinkNest "RulerWord" 155 "RulerWord$Course" "falses" "I" "RulerWord" ∈ NW := mN 339 (by decide +kernel) rfl
theorem wg_1032 : Cond.methodLink "RulerWord" 309 yX10_isAsked ∈ GW := mG 1032 (by decide +kernel) rfl
theorem wg_1034 : Cond.instanceMethod yX10_isAsked ∈ GW := mG 1034 (by decide +kernel) rfl
theorem wg_63 : Cond.selects "RulerWord" yX10_isAsked yX10_isAsked ∈ GW := mG 63 (by decide +kernel) rfl
theorem cV_X10_isAsked : CV yX10_isAsked cX10_isAsked 2 (some .boolean) 1 := ⟨mG 1035 (by decide +kernel) rfl, wg_157, wg_1034, wg_63, by decide +kernel, by decide +kernel, by decide +kernel⟩
theorem wg_1126 : Cond.methodLink "RulerWord" 325 yX10_broken ∈ GW := mG 1126 (by decide +kernel) rfl
theorem wg_1029 : Cond.instanceMethod yX10_broken ∈ GW := mG 1029 (by decide +kernel) rfl
theorem wg_1030 : Cond.selects "RulerWord" yX10_broken yX10_broken ∈ GW := mG 1030 (by decide +kernel) rfl
theorem cV_X10_broken : CV yX10_broken cX10_broken 1 (some .int) 0 := ⟨mG 1031 (by decide +kernel) rfl, wg_157, wg_1029, wg_1030, by decide +kernel, by decide +kernel, by decide +kernel⟩
theorem wg_952 : Cond.methodLink "RulerWord" 241 yX10_isOver ∈ GW := mG 952 (by decide +kernel) rfl
theorem wg_954 : Cond.instanceMethod yX10_isOver ∈ GW := mG 954 (by decide +kernel) rfl
theorem wg_54 : Cond.selects "RulerWord" yX10_isOver yX10_isOver ∈ GW := mG 54 (by decide +kernel) rfl
theorem cV_X10_isOver : CV yX10_isOver cX10_isOver 2 (some .boolean) 1 := ⟨mG 955 (by decide +kernel) rfl, wg_157, wg_954, wg_54, by decide +kernel, by decide +kernel, by decide +kernel⟩
theorem wg_486 : Cond.fieldLink "RulerWord" 73 "RulerWord" "acts" "LRulerWord$Acts;" ∈ GW := mG 486 (by decide +kernel) rfl
theorem wn_1210 : Cond.methodLinkNest "RulerWord" 380 yX0_takeBack "RulerWord" ∈ NW := mN 1210 (by decide +kernel) rfl
theorem wg_166 : Cond.initialized "RulerWord$Acts" ∈ GW := mG 166 (by decide +kernel) rfl
theorem wg_1212 : Cond.instanceMethod yX0_takeBack ∈ GW := mG 1212 (by decide +kernel) rfl
theorem wg_89 : Cond.selects "RulerWord$Acts" yX0_takeBack yX0_takeBack ∈ GW := mG 89 (by decide +kernel) rfl
theorem cV_X0_takeBack : CV yX0_takeBack cX0_takeBack 2 (some .boolean) 1 := ⟨mG 1213 (by decide +kernel) rfl, wg_166, wg_1212, wg_89, by decide +kernel, by decide +kernel, by decide +kernel⟩
theorem wg_491 : Cond.fieldLink "RulerWord" 112 "RulerWord" "imaged" "Z" ∈ GW := mG 491 (by decide +kernel) rfl
theorem wn_416 : Cond.fieldLinkNest "RulerWord" 119 "RulerWord$Acts" "depth" "I" "RulerWord" ∈ NW := mN 416 (by decide +kernel) rfl
theorem wn_341 : Cond.fieldLinkNest "RulerWord" 159 "RulerWord$Course" "gone" "I" "RulerWord" ∈ NW := mN 341 (by decide +kernel) rfl
theorem wg_202 : Cond.fieldLink "RulerWord$Tape" 36 "RulerWord$Tape" "behind" "I" ∈ GW := mG 202 (by decide +kernel) rfl
theorem wg_198 : Cond.fieldLink "RulerWord$Tape" 19 "RulerWord$Tape" "length" "I" ∈ GW := mG 198 (by decide +kernel) rfl
theorem wg_201 : Cond.fieldLink "RulerWord$Tape" 42 "RulerWord$Tape" "at" "I" ∈ GW := mG 201 (by decide +kernel) rfl
theorem wg_205 : Cond.fieldLink "RulerWord$Tape" 45 "RulerWord$Tape" "kind" "I" ∈ GW := mG 205 (by decide +kernel) rfl
theorem wg_562 : Cond.methodLink "RulerWord$Tape" 39 yX8_nextPart ∈ GW := mG 562 (by decide +kernel) rfl
theorem wg_158 : Cond.initialized "RulerWord$Tape" ∈ GW := mG 158 (by decide +kernel) rfl
theorem wg_564 : Cond.instanceMethod yX8_nextPart ∈ GW := mG 564 (by decide +kernel) rfl
theorem wg_5 : Cond.selects "RulerWord$Tape" yX8_nextPart yX8_nextPart ∈ GW := mG 5 (by decide +kernel) rfl
theorem cV_X8_nextPart : CV yX8_nextPart cX8_nextPart 3 none 0 := ⟨mG 565 (by decide +kernel) rfl, wg_158, wg_564, wg_5, by decide +kernel, by decide +kernel, by decide +kernel⟩
theorem wg_651 : Cond.methodLink "RulerWord$Tape" 52 yX8_digits ∈ GW := mG 651 (by decide +kernel) rfl
theorem wg_653 : Cond.instanceMethod yX8_digits ∈ GW := mG 653 (by decide +kernel) rfl
theorem wg_10 : Cond.selects "RulerWord$Tape" yX8_digits yX8_digits ∈ GW := mG 10 (by decide +kernel) rfl
theorem cV_X8_digits : CV yX8_digits cX8_digits 1 (some .int) 0 := ⟨mG 654 (by decide +kernel) rfl, wg_158, wg_653, wg_10, by decide +kernel, by decide +kernel, by decide +kernel⟩
theorem wg_245 : Cond.fieldLink "RulerWord$Council" 70 "RulerWord$Council" "toldPieces" "I" ∈ GW := mG 245 (by decide +kernel) rfl
theorem wg_237 : Cond.fieldLink "RulerWord$Council" 24 "RulerWord$Council" "starts" "I" ∈ GW := mG 237 (by decide +kernel) rfl
theorem wg_239 : Cond.fieldLink "RulerWord$Council" 27 "RulerWord$Council" "falses" "I" ∈ GW := mG 239 (by decide +kernel) rfl
theorem wg_241 : Cond.fieldLink "RulerWord$Council" 30 "RulerWord$Council" "skip" "Z" ∈ GW := mG 241 (by decide +kernel) rfl
theorem wg_554 : Cond.methodLink "RulerWord$Council" 34 yX2_clear ∈ GW := mG 554 (by decide +kernel) rfl
theorem wg_556 : Cond.instanceMethod yX2_clear ∈ GW := mG 556 (by decide +kernel) rfl
theorem wg_3 : Cond.selects "RulerWord$Council" yX2_clear yX2_clear ∈ GW := mG 3 (by decide +kernel) rfl
theorem cV_X2_clear : CV yX2_clear cX2_clear 1 none 0 := ⟨mG 557 (by decide +kernel) rfl, wg_159, wg_556, wg_3, by decide +kernel, by decide +kernel, by decide +kernel⟩
theorem wn_558 : Cond.methodLinkNest "RulerWord$Council" 37 yX8_firstPart "RulerWord" ∈ NW := mN 558 (by decide +kernel) rfl
theorem wg_560 : Cond.instanceMethod yX8_firstPart ∈ GW := mG 560 (by decide +kernel) rfl
theorem wg_4 : Cond.selects "RulerWord$Tape" yX8_firstPart yX8_firstPart ∈ GW := mG 4 (by decide +kernel) rfl
theorem cV_X8_firstPart : CV yX8_firstPart cX8_firstPart 1 none 0 := ⟨mG 561 (by decide +kernel) rfl, wg_158, wg_560, wg_4, by decide +kernel, by decide +kernel, by decide +kernel⟩
theorem wn_570 : Cond.methodLinkNest "RulerWord$Council" 44 yX8_isWord "RulerWord" ∈ NW := mN 570 (by decide +kernel) rfl
theorem wg_572 : Cond.instanceMethod yX8_isWord ∈ GW := mG 572 (by decide +kernel) rfl
theorem wg_6 : Cond.selects "RulerWord$Tape" yX8_isWord yX8_isWord ∈ GW := mG 6 (by decide +kernel) rfl
theorem cV_X8_isWord : CV yX8_isWord cX8_isWord 3 (some .boolean) 1 := ⟨mG 573 (by decide +kernel) rfl, wg_158, wg_572, wg_6, by decide +kernel, by decide +kernel, by decide +kernel⟩
theorem wn_199 : Cond.fieldLinkNest "RulerWord$Council" 50 "RulerWord$Tape" "at" "I" "RulerWord" ∈ NW := mN 199 (by decide +kernel) rfl
theorem wn_692 : Cond.methodLinkNest "RulerWord$Plan" 47 yX8_isWord "RulerWord" ∈ NW := mN 692 (by decide +kernel) rfl
theorem wn_697 : Cond.methodLinkNest "RulerWord$Plan" 55 yX8_number "RulerWord" ∈ NW := mN 697 (by decide +kernel) rfl
theorem wg_649 : Cond.instanceMethod yX8_number ∈ GW := mG 649 (by decide +kernel) rfl
theorem wg_9 : Cond.selects "RulerWord$Tape" yX8_number yX8_number ∈ GW := mG 9 (by decide +kernel) rfl
theorem cV_X8_number : CV yX8_number cX8_number 4 (some .int) 2 := ⟨mG 650 (by decide +kernel) rfl, wg_158, wg_649, wg_9, by decide +kernel, by decide +kernel, by decide +kernel⟩
theorem wg_269 : Cond.fieldLink "RulerWord$Plan" 11 "RulerWord$Plan" "parts" "[I" ∈ GW := mG 269 (by decide +kernel) rfl
theorem wg_685 : Cond.methodLink "RulerWord$Plan" 43 yX5_wordOf ∈ GW := mG 685 (by decide +kernel) rfl
theorem wg_160 : Cond.initialized "RulerWord$Plan" ∈ GW := mG 160 (by decide +kernel) rfl
theorem wg_686 : Cond.static yX5_wordOf ∈ GW := mG 686 (by decide +kernel) rfl
theorem cS_X5_wordOf : CS yX5_wordOf cX5_wordOf 1 (some (.object "java/lang/String")) 1 := ⟨mG 687 (by decide +kernel) rfl, wg_160, wg_686, by decide +kernel, by decide +kernel, by decide +kernel⟩
theorem wg_698 : Cond.methodLink "RulerWord$Plan" 59 yX5_actOf ∈ GW := mG 698 (by decide +kernel) rfl
theorem wg_699 : Cond.static yX5_actOf ∈ GW := mG 699 (by decide +kernel) rfl
theorem cS_X5_actOf : CS yX5_actOf cX5_actOf 1 (some .int) 1 := ⟨mG 700 (by decide +kernel) rfl, wg_160, wg_699, by decide +kernel, by decide +kernel, by decide +kernel⟩
theorem wg_270 : Cond.fieldLink "RulerWord$Plan" 21 "RulerWord$Plan" "lines" "I" ∈ GW := mG 270 (by decide +kernel) rfl
theorem wn_680 : Cond.methodLinkNest "RulerWord$Plan" 25 yX8_firstPart "RulerWord" ∈ NW := mN 680 (by decide +kernel) rfl
theorem wg_681 : Cond.methodLink "RulerWord$Plan" 30 yX5_readLine ∈ GW := mG 681 (by decide +kernel) rfl
theorem wg_683 : Cond.instanceMethod yX5_readLine ∈ GW := mG 683 (by decide +kernel) rfl
theorem wg_16 : Cond.selects "RulerWord$Plan" yX5_readLine yX5_readLine ∈ GW := mG 16 (by decide +kernel) rfl
theorem cV_X5_readLine : CV yX5_readLine cX5_readLine 5 (some .boolean) 2 := ⟨mG 684 (by decide +kernel) rfl, wg_160, wg_683, wg_16, by decide +kernel, by decide +kernel, by decide +kernel⟩
theorem wn_200 : Cond.fieldLinkNest "RulerWord$Plan" 34 "RulerWord$Tape" "at" "I" "RulerWord" ∈ NW := mN 200 (by decide +kernel) rfl
theorem wg_476 : Cond.fieldLink "RulerWord" 19 "RulerWord" "draft" "LRulerWord$Council;" ∈ GW := mG 476 (by decide +kernel) rfl
theorem wn_550 : Cond.methodLinkNest "RulerWord" 99 yX2_readFrom "RulerWord" ∈ NW := mN 550 (by decide +kernel) rfl
theorem wg_552 : Cond.instanceMethod yX2_readFrom ∈ GW := mG 552 (by decide +kernel) rfl
theorem wg_2 : Cond.selects "RulerWord$Council" yX2_readFrom yX2_readFrom ∈ GW := mG 2 (by decide +kernel) rfl
theorem cV_X2_readFrom : CV yX2_readFrom cX2_readFrom 3 (some .int) 1 := ⟨mG 553 (by decide +kernel) rfl, wg_159, wg_552, wg_2, by decide +kernel, by decide +kernel, by decide +kernel⟩
theorem wg_479 : Cond.fieldLink "RulerWord" 32 "RulerWord" "draftPlan" "LRulerWord$Plan;" ∈ GW := mG 479 (by decide +kernel) rfl
theorem wn_676 : Cond.methodLinkNest "RulerWord" 103 yX5_readFrom "RulerWord" ∈ NW := mN 676 (by decide +kernel) rfl
theorem wg_678 : Cond.instanceMethod yX5_readFrom ∈ GW := mG 678 (by decide +kernel) rfl
theorem wg_15 : Cond.selects "RulerWord$Plan" yX5_readFrom yX5_readFrom ∈ GW := mG 15 (by decide +kernel) rfl
theorem cV_X5_readFrom : CV yX5_readFrom cX5_readFrom 3 (some .int) 1 := ⟨mG 679 (by decide +kernel) rfl, wg_160, wg_678, wg_15, by decide +kernel, by decide +kernel, by decide +kernel⟩
theorem wg_582 : Cond.fieldLink "java/lang/String" 38 "java/lang/String" "COMPACT_STRINGS" "Z" ∈ GW := mG 582 (by decide +kernel) rfl
theorem wg_1971 : Cond.fieldLink "java/lang/String" 9 "java/lang/String" "value" "[B" ∈ GW := mG 1971 (by decide +kernel) rfl
theorem wg_1972 : Cond.fieldLink "java/lang/String" 15 "java/lang/String" "coder" "B" ∈ GW := mG 1972 (by decide +kernel) rfl
theorem wg_578 : Cond.methodLink "java/lang/String" 335 yJ0_coder_7d493 ∈ GW := mG 578 (by decide +kernel) rfl
theorem wg_169 : Cond.initialized "java/lang/String" ∈ GW := mG 169 (by decide +kernel) rfl
theorem wg_579 : Cond.instanceMethod yJ0_coder_7d493 ∈ GW := mG 579 (by decide +kernel) rfl
theorem wg_580 : Cond.selects "java/lang/String" yJ0_coder_7d493 yJ0_coder_7d493 ∈ GW := mG 580 (by decide +kernel) rfl
theorem cV_J0_coder_7d493 : CV yJ0_coder_7d493 cJ0_coder_7d493 1 (some .byte) 0 := ⟨mG 581 (by decide +kernel) rfl, wg_169, wg_579, wg_580, by decide +kernel, by decide +kernel, by decide +kernel⟩
theorem wg_575 : Cond.instanceMethod yJ0_length_8abf5 ∈ GW := mG 575 (by decide +kernel) rfl
theorem wg_576 : Cond.selects "java/lang/String" yJ0_length_8abf5 yJ0_length_8abf5 ∈ GW := mG 576 (by decide +kernel) rfl
theorem cV_J0_length_8abf5 : CV yJ0_length_8abf5 cJ0_length_8abf5 1 (some .int) 0 := ⟨mG 577 (by decide +kernel) rfl, wg_169, wg_575, wg_576, by decide +kernel, by decide +kernel, by decide +kernel⟩
theorem wg_1339 : Cond.fieldLink "RulerWordModel" 95 "RulerWordModel" "at" "I" ∈ GW := mG 1339 (by decide +kernel) rfl
theorem inX11 : ∀ w ∈ u_ws RX11 TX11 56, w ∈ GW := by
  have h : (u_ws RX11 TX11 56).all (fun w => decide (w ∈ lw_tbl) && goodWord w) = true := by decide +kernel
  intro w hw
  have h1 := List.all_eq_true.mp h w hw
  simp only [Bool.and_eq_true, decide_eq_true_eq] at h1
  exact List.mem_filter.mpr h1
theorem wg_1338 : Cond.fieldLink "RulerWordModel" 84 "RulerWordModel" "length" "I" ∈ GW := mG 1338 (by decide +kernel) rfl
theorem wg_1537 : Cond.methodLink "RulerWordModel" 98 yX11_here ∈ GW := mG 1537 (by decide +kernel) rfl
theorem wg_168 : Cond.initialized "RulerWordModel" ∈ GW := mG 168 (by decide +kernel) rfl
theorem wg_1539 : Cond.instanceMethod yX11_here ∈ GW := mG 1539 (by decide +kernel) rfl
theorem wg_100 : Cond.selects "RulerWordModel" yX11_here yX11_here ∈ GW := mG 100 (by decide +kernel) rfl
theorem cV_X11_here : CV yX11_here cX11_here 1 (some .int) 0 := ⟨mG 1540 (by decide +kernel) rfl, wg_168, wg_1539, wg_100, by decide +kernel, by decide +kernel, by decide +kernel⟩
theorem wg_1533 : Cond.methodLink "RulerWordModel" 105 yX11_look ∈ GW := mG 1533 (by decide +kernel) rfl
theorem wg_1535 : Cond.instanceMethod yX11_look ∈ GW := mG 1535 (by decide +kernel) rfl
theorem wg_99 : Cond.selects "RulerWordModel" yX11_look yX11_look ∈ GW := mG 99 (by decide +kernel) rfl
theorem cV_X11_look : CV yX11_look cX11_look 1 (some .int) 0 := ⟨mG 1536 (by decide +kernel) rfl, wg_168, wg_1535, wg_99, by decide +kernel, by decide +kernel, by decide +kernel⟩
theorem wg_1546 : Cond.methodLink "RulerWordModel" 108 yJ0_length_8abf5 ∈ GW := mG 1546 (by decide +kernel) rfl
theorem wg_1340 : Cond.fieldLink "RulerWordModel" 102 "RulerWordModel" "fault" "I" ∈ GW := mG 1340 (by decide +kernel) rfl
theorem wg_1345 : Cond.fieldLink "RulerWordModel" 158 "RulerWordModel" "toldRead" "I" ∈ GW := mG 1345 (by decide +kernel) rfl
theorem wg_1343 : Cond.fieldLink "RulerWordModel" 13 "RulerWordModel" "read" "[I" ∈ GW := mG 1343 (by decide +kernel) rfl
theorem wg_1542 : Cond.methodLink "RulerWordModel" 141 yX11_takes ∈ GW := mG 1542 (by decide +kernel) rfl
theorem wg_1544 : Cond.instanceMethod yX11_takes ∈ GW := mG 1544 (by decide +kernel) rfl
theorem wg_101 : Cond.selects "RulerWordModel" yX11_takes yX11_takes ∈ GW := mG 101 (by decide +kernel) rfl
theorem cV_X11_takes : CV yX11_takes cX11_takes 4 (some .boolean) 1 := ⟨mG 1545 (by decide +kernel) rfl, wg_168, wg_1544, wg_101, by decide +kernel, by decide +kernel, by decide +kernel⟩
theorem wg_1344 : Cond.fieldLink "RulerWordModel" 178 "RulerWordModel" "formRead" "I" ∈ GW := mG 1344 (by decide +kernel) rfl
theorem wg_1549 : Cond.methodLink "RulerWordModel" 136 yX11_fails ∈ GW := mG 1549 (by decide +kernel) rfl
theorem wg_1551 : Cond.instanceMethod yX11_fails ∈ GW := mG 1551 (by decide +kernel) rfl
theorem wg_102 : Cond.selects "RulerWordModel" yX11_fails yX11_fails ∈ GW := mG 102 (by decide +kernel) rfl
theorem cV_X11_fails : CV yX11_fails cX11_fails 2 none 1 := ⟨mG 1552 (by decide +kernel) rfl, wg_168, wg_1551, wg_102, by decide +kernel, by decide +kernel, by decide +kernel⟩
theorem wg_1567 : Cond.methodLink "RulerWordModel" 161 yX11_has ∈ GW := mG 1567 (by decide +kernel) rfl
theorem wg_1568 : Cond.static yX11_has ∈ GW := mG 1568 (by decide +kernel) rfl
theorem cS_X11_has : CS yX11_has cX11_has 2 (some .boolean) 2 := ⟨mG 1569 (by decide +kernel) rfl, wg_168, wg_1568, by decide +kernel, by decide +kernel, by decide +kernel⟩
theorem wg_1349 : Cond.fieldLink "RulerWordModel" 184 "RulerWordModel" "linesRead" "I" ∈ GW := mG 1349 (by decide +kernel) rfl
theorem wg_1347 : Cond.fieldLink "RulerWordModel" 20 "RulerWordModel" "lineRead" "[I" ∈ GW := mG 1347 (by decide +kernel) rfl
theorem wg_1578 : Cond.methodLink "RulerWordModel" 119 yX11_isDigit ∈ GW := mG 1578 (by decide +kernel) rfl
theorem wg_1579 : Cond.static yX11_isDigit ∈ GW := mG 1579 (by decide +kernel) rfl
theorem cS_X11_isDigit : CS yX11_isDigit cX11_isDigit 1 (some .boolean) 1 := ⟨mG 1580 (by decide +kernel) rfl, wg_168, wg_1579, by decide +kernel, by decide +kernel, by decide +kernel⟩
theorem wg_1600 : Cond.methodLink "RulerWordModel" 203 yX11_planLine ∈ GW := mG 1600 (by decide +kernel) rfl
theorem wg_1602 : Cond.instanceMethod yX11_planLine ∈ GW := mG 1602 (by decide +kernel) rfl
theorem wg_111 : Cond.selects "RulerWordModel" yX11_planLine yX11_planLine ∈ GW := mG 111 (by decide +kernel) rfl
theorem cV_X11_planLine : CV yX11_planLine cX11_planLine 3 none 0 := ⟨mG 1603 (by decide +kernel) rfl, wg_168, wg_1602, wg_111, by decide +kernel, by decide +kernel, by decide +kernel⟩
theorem wg_1359 : Cond.fieldLink "RulerWordModel" 232 "RulerWordModel" "hasCouncil" "Z" ∈ GW := mG 1359 (by decide +kernel) rfl
theorem wg_1336 : Cond.fieldLink "RulerWordModel" 80 "RulerWordModel" "thrown" "I" ∈ GW := mG 1336 (by decide +kernel) rfl
theorem wg_1596 : Cond.methodLink "RulerWordModel" 209 yX11_readsPlan ∈ GW := mG 1596 (by decide +kernel) rfl
theorem wg_1598 : Cond.instanceMethod yX11_readsPlan ∈ GW := mG 1598 (by decide +kernel) rfl
theorem wg_110 : Cond.selects "RulerWordModel" yX11_readsPlan yX11_readsPlan ∈ GW := mG 110 (by decide +kernel) rfl
theorem cV_X11_readsPlan : CV yX11_readsPlan cX11_readsPlan 1 (some .int) 0 := ⟨mG 1599 (by decide +kernel) rfl, wg_168, wg_1598, wg_110, by decide +kernel, by decide +kernel, by decide +kernel⟩
theorem wg_1529 : Cond.methodLink "RulerWordModel" 206 yX11_readsCouncil ∈ GW := mG 1529 (by decide +kernel) rfl
theorem wg_1531 : Cond.instanceMethod yX11_readsCouncil ∈ GW := mG 1531 (by decide +kernel) rfl
theorem wg_98 : Cond.selects "RulerWordModel" yX11_readsCouncil yX11_readsCouncil ∈ GW := mG 98 (by decide +kernel) rfl
theorem cV_X11_readsCouncil : CV yX11_readsCouncil cX11_readsCouncil 2 (some .int) 0 := ⟨mG 1532 (by decide +kernel) rfl, wg_168, wg_1531, wg_98, by decide +kernel, by decide +kernel, by decide +kernel⟩
theorem wg_1756 : Cond.constant "RulerWordModel" 357 (-1000000) ∈ GW := mG 1756 (by decide +kernel) rfl
theorem wg_1348 : Cond.fieldLink "RulerWordModel" 248 "RulerWordModel" "lines" "I" ∈ GW := mG 1348 (by decide +kernel) rfl
theorem wg_1385 : Cond.fieldLink "RulerWordModel" 71 "RulerWordModel" "refused" "[I" ∈ GW := mG 1385 (by decide +kernel) rfl
theorem wg_1714 : Cond.methodLink "RulerWordModel" 341 yX11_refuse ∈ GW := mG 1714 (by decide +kernel) rfl
theorem wg_1716 : Cond.instanceMethod yX11_refuse ∈ GW := mG 1716 (by decide +kernel) rfl
theorem wg_130 : Cond.selects "RulerWordModel" yX11_refuse yX11_refuse ∈ GW := mG 130 (by decide +kernel) rfl
theorem cV_X11_refuse : CV yX11_refuse cX11_refuse 2 (some .int) 1 := ⟨mG 1717 (by decide +kernel) rfl, wg_168, wg_1716, wg_130, by decide +kernel, by decide +kernel, by decide +kernel⟩
theorem wg_1718 : Cond.methodLink "RulerWordModel" 344 yX11_isRound ∈ GW := mG 1718 (by decide +kernel) rfl
theorem wg_1720 : Cond.instanceMethod yX11_isRound ∈ GW := mG 1720 (by decide +kernel) rfl
theorem wg_131 : Cond.selects "RulerWordModel" yX11_isRound yX11_isRound ∈ GW := mG 131 (by decide +kernel) rfl
theorem cV_X11_isRound : CV yX11_isRound cX11_isRound 3 (some .boolean) 2 := ⟨mG 1721 (by decide +kernel) rfl, wg_168, wg_1720, wg_131, by decide +kernel, by decide +kernel, by decide +kernel⟩
theorem wg_1722 : Cond.methodLink "RulerWordModel" 347 yX11_isPeer ∈ GW := mG 1722 (by decide +kernel) rfl
theorem wg_1724 : Cond.instanceMethod yX11_isPeer ∈ GW := mG 1724 (by decide +kernel) rfl
theorem wg_132 : Cond.selects "RulerWordModel" yX11_isPeer yX11_isPeer ∈ GW := mG 132 (by decide +kernel) rfl
theorem cV_X11_isPeer : CV yX11_isPeer cX11_isPeer 2 (some .boolean) 1 := ⟨mG 1725 (by decide +kernel) rfl, wg_168, wg_1724, wg_132, by decide +kernel, by decide +kernel, by decide +kernel⟩
theorem wg_1773 : Cond.methodLink "RulerWordModel" 358 yX11_over ∈ GW := mG 1773 (by decide +kernel) rfl
theorem wg_1775 : Cond.instanceMethod yX11_over ∈ GW := mG 1775 (by decide +kernel) rfl
theorem wg_133 : Cond.selects "RulerWordModel" yX11_over yX11_over ∈ GW := mG 133 (by decide +kernel) rfl
theorem cV_X11_over : CV yX11_over cX11_over 1 (some .int) 0 := ⟨mG 1776 (by decide +kernel) rfl, wg_168, wg_1775, wg_133, by decide +kernel, by decide +kernel, by decide +kernel⟩
theorem wg_1353 : Cond.fieldLink "RulerWordModel" 220 "RulerWordModel" "phases" "I" ∈ GW := mG 1353 (by decide +kernel) rfl
theorem wg_1838 : Cond.methodLink "RulerWordModel" 396 yX11_canSearch ∈ GW := mG 1838 (by decide +kernel) rfl
theorem wg_1840 : Cond.instanceMethod yX11_canSearch ∈ GW := mG 1840 (by decide +kernel) rfl
theorem wg_141 : Cond.selects "RulerWordModel" yX11_canSearch yX11_canSearch ∈ GW := mG 141 (by decide +kernel) rfl
theorem cV_X11_canSearch : CV yX11_canSearch cX11_canSearch 1 (some .boolean) 0 := ⟨mG 1841 (by decide +kernel) rfl, wg_168, wg_1840, wg_141, by decide +kernel, by decide +kernel, by decide +kernel⟩
theorem wg_1585 : Cond.methodLink "RulerWordModel" 132 yX11_isIn ∈ GW := mG 1585 (by decide +kernel) rfl
theorem wg_1586 : Cond.static yX11_isIn ∈ GW := mG 1586 (by decide +kernel) rfl
theorem cS_X11_isIn : CS yX11_isIn cX11_isIn 6 (some .boolean) 3 := ⟨mG 1587 (by decide +kernel) rfl, wg_168, wg_1586, by decide +kernel, by decide +kernel, by decide +kernel⟩
theorem wg_1383 : Cond.fieldLink "RulerWordModel" 239 "RulerWordModel" "acts" "I" ∈ GW := mG 1383 (by decide +kernel) rfl
theorem wg_1384 : Cond.fieldLink "RulerWordModel" 242 "RulerWordModel" "hasImage" "Z" ∈ GW := mG 1384 (by decide +kernel) rfl
end
section
theorem dJ0_coder_7d493_0 : decode cJ0_coder_7d493 0 = .ok (.getstatic 38, 3) := by decide +kernel
theorem dJ0_coder_7d493_3 : decode cJ0_coder_7d493 3 = .ok (.ifCond .eq 10, 3) := by decide +kernel
theorem dJ0_coder_7d493_6 : decode cJ0_coder_7d493 6 = .ok (.aload_n 0, 1) := by decide +kernel
theorem dJ0_coder_7d493_7 : decode cJ0_coder_7d493 7 = .ok (.getfield 15, 3) := by decide +kernel
theorem dJ0_coder_7d493_10 : decode cJ0_coder_7d493 10 = .ok (.goto 4, 3) := by decide +kernel
theorem dJ0_coder_7d493_13 : decode cJ0_coder_7d493 13 = .ok (.iconst 1, 1) := by decide +kernel
theorem dJ0_coder_7d493_14 : decode cJ0_coder_7d493 14 = .ok (.ireturn, 1) := by decide +kernel
theorem dJ0_length_8abf5_0 : decode cJ0_length_8abf5 0 = .ok (.aload_n 0, 1) := by decide +kernel
theorem dJ0_length_8abf5_1 : decode cJ0_length_8abf5 1 = .ok (.getfield 9, 3) := by decide +kernel
theorem dJ0_length_8abf5_4 : decode cJ0_length_8abf5 4 = .ok (.arraylength, 1) := by decide +kernel
theorem dJ0_length_8abf5_5 : decode cJ0_length_8abf5 5 = .ok (.aload_n 0, 1) := by decide +kernel
theorem dJ0_length_8abf5_6 : decode cJ0_length_8abf5 6 = .ok (.invokevirtual 335, 3) := by decide +kernel
theorem dJ0_length_8abf5_9 : decode cJ0_length_8abf5 9 = .ok (.ishr, 1) := by decide +kernel
theorem dJ0_length_8abf5_10 : decode cJ0_length_8abf5 10 = .ok (.ireturn, 1) := by decide +kernel
theorem dX0_takeBack_0 : decode cX0_takeBack 0 = .ok (.aload_n 0, 1) := by decide +kernel
theorem dX0_takeBack_1 : decode cX0_takeBack 1 = .ok (.getfield 24, 3) := by decide +kernel
theorem dX0_takeBack_4 : decode cX0_takeBack 4 = .ok (.iconst 1, 1) := by decide +kernel
theorem dX0_takeBack_5 : decode cX0_takeBack 5 = .ok (.if_icmp .ge 5, 3) := by decide +kernel
theorem dX0_takeBack_8 : decode cX0_takeBack 8 = .ok (.iconst 0, 1) := by decide +kernel
theorem dX0_takeBack_9 : decode cX0_takeBack 9 = .ok (.ireturn, 1) := by decide +kernel
theorem dX0_takeBack_10 : decode cX0_takeBack 10 = .ok (.aload_n 1, 1) := by decide +kernel
theorem dX0_takeBack_11 : decode cX0_takeBack 11 = .ok (.aload_n 0, 1) := by decide +kernel
theorem dX0_takeBack_12 : decode cX0_takeBack 12 = .ok (.getfield 11, 3) := by decide +kernel
theorem dX0_takeBack_15 : decode cX0_takeBack 15 = .ok (.aload_n 0, 1) := by decide +kernel
theorem dX0_takeBack_16 : decode cX0_takeBack 16 = .ok (.getfield 16, 3) := by decide +kernel
theorem dX0_takeBack_19 : decode cX0_takeBack 19 = .ok (.aaload, 1) := by decide +kernel
theorem dX0_takeBack_20 : decode cX0_takeBack 20 = .ok (.invokevirtual 20, 3) := by decide +kernel
theorem dX0_takeBack_23 : decode cX0_takeBack 23 = .ok (.aload_n 0, 1) := by decide +kernel
theorem dX0_takeBack_24 : decode cX0_takeBack 24 = .ok (.aload_n 0, 1) := by decide +kernel
theorem dX0_takeBack_25 : decode cX0_takeBack 25 = .ok (.getfield 16, 3) := by decide +kernel
theorem dX0_takeBack_28 : decode cX0_takeBack 28 = .ok (.bipush 20, 2) := by decide +kernel
theorem dX0_takeBack_30 : decode cX0_takeBack 30 = .ok (.iadd, 1) := by decide +kernel
theorem dX0_takeBack_31 : decode cX0_takeBack 31 = .ok (.iconst 1, 1) := by decide +kernel
theorem dX0_takeBack_32 : decode cX0_takeBack 32 = .ok (.isub, 1) := by decide +kernel
theorem dX0_takeBack_33 : decode cX0_takeBack 33 = .ok (.bipush 20, 2) := by decide +kernel
theorem dX0_takeBack_35 : decode cX0_takeBack 35 = .ok (.irem, 1) := by decide +kernel
theorem dX0_takeBack_36 : decode cX0_takeBack 36 = .ok (.putfield 16, 3) := by decide +kernel
theorem dX0_takeBack_39 : decode cX0_takeBack 39 = .ok (.aload_n 0, 1) := by decide +kernel
theorem dX0_takeBack_40 : decode cX0_takeBack 40 = .ok (.dup, 1) := by decide +kernel
theorem dX0_takeBack_41 : decode cX0_takeBack 41 = .ok (.getfield 24, 3) := by decide +kernel
theorem dX0_takeBack_44 : decode cX0_takeBack 44 = .ok (.iconst 1, 1) := by decide +kernel
theorem dX0_takeBack_45 : decode cX0_takeBack 45 = .ok (.isub, 1) := by decide +kernel
theorem dX0_takeBack_46 : decode cX0_takeBack 46 = .ok (.putfield 24, 3) := by decide +kernel
theorem dX0_takeBack_49 : decode cX0_takeBack 49 = .ok (.iconst 1, 1) := by decide +kernel
theorem dX0_takeBack_50 : decode cX0_takeBack 50 = .ok (.ireturn, 1) := by decide +kernel
theorem dX10_agreed_0 : decode cX10_agreed 0 = .ok (.aload_n 0, 1) := by decide +kernel
theorem dX10_agreed_1 : decode cX10_agreed 1 = .ok (.getfield 60, 3) := by decide +kernel
theorem dX10_agreed_4 : decode cX10_agreed 4 = .ok (.aload_n 0, 1) := by decide +kernel
theorem dX10_agreed_5 : decode cX10_agreed 5 = .ok (.getfield 23, 3) := by decide +kernel
theorem dX10_agreed_8 : decode cX10_agreed 8 = .ok (.invokevirtual 269, 3) := by decide +kernel
theorem dX10_agreed_11 : decode cX10_agreed 11 = .ok (.ireturn, 1) := by decide +kernel
theorem dX10_asOthers_0 : decode cX10_asOthers 0 = .ok (.aload_n 0, 1) := by decide +kernel
theorem dX10_asOthers_1 : decode cX10_asOthers 1 = .ok (.getfield 108, 3) := by decide +kernel
theorem dX10_asOthers_4 : decode cX10_asOthers 4 = .ok (.ifCond .eq 12, 3) := by decide +kernel
theorem dX10_asOthers_7 : decode cX10_asOthers 7 = .ok (.iload_n 1, 1) := by decide +kernel
theorem dX10_asOthers_8 : decode cX10_asOthers 8 = .ok (.ifCond .lt 8, 3) := by decide +kernel
theorem dX10_asOthers_11 : decode cX10_asOthers 11 = .ok (.iload_n 1, 1) := by decide +kernel
theorem dX10_asOthers_12 : decode cX10_asOthers 12 = .ok (.iconst 3, 1) := by decide +kernel
theorem dX10_asOthers_13 : decode cX10_asOthers 13 = .ok (.if_icmp .le 6, 3) := by decide +kernel
theorem dX10_asOthers_16 : decode cX10_asOthers 16 = .ok (.bipush (-2), 2) := by decide +kernel
theorem dX10_asOthers_18 : decode cX10_asOthers 18 = .ok (.ireturn, 1) := by decide +kernel
theorem dX10_asOthers_19 : decode cX10_asOthers 19 = .ok (.aload_n 0, 1) := by decide +kernel
theorem dX10_asOthers_20 : decode cX10_asOthers 20 = .ok (.getfield 26, 3) := by decide +kernel
theorem dX10_asOthers_23 : decode cX10_asOthers 23 = .ok (.aload_n 0, 1) := by decide +kernel
theorem dX10_asOthers_24 : decode cX10_asOthers 24 = .ok (.getfield 23, 3) := by decide +kernel
theorem dX10_asOthers_27 : decode cX10_asOthers 27 = .ok (.invokevirtual 104, 3) := by decide +kernel
theorem dX10_asOthers_30 : decode cX10_asOthers 30 = .ok (.aload_n 0, 1) := by decide +kernel
theorem dX10_asOthers_31 : decode cX10_asOthers 31 = .ok (.getfield 26, 3) := by decide +kernel
theorem dX10_asOthers_34 : decode cX10_asOthers 34 = .ok (.aload_n 0, 1) := by decide +kernel
theorem dX10_asOthers_35 : decode cX10_asOthers 35 = .ok (.getfield 23, 3) := by decide +kernel
theorem dX10_asOthers_38 : decode cX10_asOthers 38 = .ok (.getfield 145, 3) := by decide +kernel
theorem dX10_asOthers_41 : decode cX10_asOthers 41 = .ok (.ifCond .ne 7, 3) := by decide +kernel
theorem dX10_asOthers_44 : decode cX10_asOthers 44 = .ok (.iconst 1, 1) := by decide +kernel
theorem dX10_asOthers_45 : decode cX10_asOthers 45 = .ok (.goto 4, 3) := by decide +kernel
theorem dX10_asOthers_48 : decode cX10_asOthers 48 = .ok (.iconst 0, 1) := by decide +kernel
theorem dX10_asOthers_49 : decode cX10_asOthers 49 = .ok (.putfield 145, 3) := by decide +kernel
theorem dX10_asOthers_52 : decode cX10_asOthers 52 = .ok (.iload_n 1, 1) := by decide +kernel
theorem dX10_asOthers_53 : decode cX10_asOthers 53 = .ok (.iconst 3, 1) := by decide +kernel
theorem dX10_asOthers_54 : decode cX10_asOthers 54 = .ok (.if_icmp .ne 11, 3) := by decide +kernel
theorem dX10_asOthers_57 : decode cX10_asOthers 57 = .ok (.aload_n 0, 1) := by decide +kernel
theorem dX10_asOthers_58 : decode cX10_asOthers 58 = .ok (.getfield 26, 3) := by decide +kernel
theorem dX10_asOthers_61 : decode cX10_asOthers 61 = .ok (.invokevirtual 297, 3) := by decide +kernel
theorem dX10_asOthers_64 : decode cX10_asOthers 64 = .ok (.ireturn, 1) := by decide +kernel
theorem dX10_asOthers_65 : decode cX10_asOthers 65 = .ok (.aload_n 0, 1) := by decide +kernel
theorem dX10_asOthers_66 : decode cX10_asOthers 66 = .ok (.aload_n 0, 1) := by decide +kernel
theorem dX10_asOthers_67 : decode cX10_asOthers 67 = .ok (.getfield 26, 3) := by decide +kernel
theorem dX10_asOthers_70 : decode cX10_asOthers 70 = .ok (.aload_n 0, 1) := by decide +kernel
theorem dX10_asOthers_71 : decode cX10_asOthers 71 = .ok (.getfield 39, 3) := by decide +kernel
theorem dX10_asOthers_74 : decode cX10_asOthers 74 = .ok (.aload_n 0, 1) := by decide +kernel
theorem dX10_asOthers_75 : decode cX10_asOthers 75 = .ok (.getfield 115, 3) := by decide +kernel
theorem dX10_asOthers_78 : decode cX10_asOthers 78 = .ok (.invokevirtual 347, 3) := by decide +kernel
theorem dX10_asOthers_81 : decode cX10_asOthers 81 = .ok (.iload_n 1, 1) := by decide +kernel
theorem dX10_asOthers_82 : decode cX10_asOthers 82 = .ok (.lookupswitch 46 #[(0, 26), (1, 38)], 26) := by decide +kernel
theorem dX10_asOthers_108 : decode cX10_asOthers 108 = .ok (.aload_n 0, 1) := by decide +kernel
theorem dX10_asOthers_109 : decode cX10_asOthers 109 = .ok (.getfield 67, 3) := by decide +kernel
theorem dX10_asOthers_112 : decode cX10_asOthers 112 = .ok (.aload_n 0, 1) := by decide +kernel
theorem dX10_asOthers_113 : decode cX10_asOthers 113 = .ok (.getfield 26, 3) := by decide +kernel
theorem dX10_asOthers_116 : decode cX10_asOthers 116 = .ok (.invokevirtual 269, 3) := by decide +kernel
theorem dX10_asOthers_119 : decode cX10_asOthers 119 = .ok (.ireturn, 1) := by decide +kernel
theorem dX10_asOthers_120 : decode cX10_asOthers 120 = .ok (.aload_n 0, 1) := by decide +kernel
theorem dX10_asOthers_121 : decode cX10_asOthers 121 = .ok (.getfield 67, 3) := by decide +kernel
theorem dX10_asOthers_124 : decode cX10_asOthers 124 = .ok (.getfield 291, 3) := by decide +kernel
theorem dX10_asOthers_127 : decode cX10_asOthers 127 = .ok (.ireturn, 1) := by decide +kernel
theorem dX10_asOthers_128 : decode cX10_asOthers 128 = .ok (.aload_n 0, 1) := by decide +kernel
theorem dX10_asOthers_129 : decode cX10_asOthers 129 = .ok (.getfield 67, 3) := by decide +kernel
theorem dX10_asOthers_132 : decode cX10_asOthers 132 = .ok (.getfield 211, 3) := by decide +kernel
theorem dX10_asOthers_135 : decode cX10_asOthers 135 = .ok (.ireturn, 1) := by decide +kernel
theorem dX10_back_0 : decode cX10_back 0 = .ok (.aload_n 0, 1) := by decide +kernel
theorem dX10_back_1 : decode cX10_back 1 = .ok (.getfield 112, 3) := by decide +kernel
theorem dX10_back_4 : decode cX10_back 4 = .ok (.ifCond .ne 5, 3) := by decide +kernel
theorem dX10_back_7 : decode cX10_back 7 = .ok (.iconst (-1), 1) := by decide +kernel
theorem dX10_back_8 : decode cX10_back 8 = .ok (.ireturn, 1) := by decide +kernel
theorem dX10_back_9 : decode cX10_back 9 = .ok (.aload_n 0, 1) := by decide +kernel
theorem dX10_back_10 : decode cX10_back 10 = .ok (.getfield 60, 3) := by decide +kernel
theorem dX10_back_13 : decode cX10_back 13 = .ok (.aload_n 0, 1) := by decide +kernel
theorem dX10_back_14 : decode cX10_back 14 = .ok (.getfield 64, 3) := by decide +kernel
theorem dX10_back_17 : decode cX10_back 17 = .ok (.invokevirtual 384, 3) := by decide +kernel
theorem dX10_back_20 : decode cX10_back 20 = .ok (.aload_n 0, 1) := by decide +kernel
theorem dX10_back_21 : decode cX10_back 21 = .ok (.getfield 73, 3) := by decide +kernel
theorem dX10_back_24 : decode cX10_back 24 = .ok (.iconst 0, 1) := by decide +kernel
theorem dX10_back_25 : decode cX10_back 25 = .ok (.putfield 119, 3) := by decide +kernel
theorem dX10_back_28 : decode cX10_back 28 = .ok (.aload_n 0, 1) := by decide +kernel
theorem dX10_back_29 : decode cX10_back 29 = .ok (.getfield 60, 3) := by decide +kernel
theorem dX10_back_32 : decode cX10_back 32 = .ok (.getfield 159, 3) := by decide +kernel
theorem dX10_back_35 : decode cX10_back 35 = .ok (.ireturn, 1) := by decide +kernel
theorem dX10_broken_0 : decode cX10_broken 0 = .ok (.aload_n 0, 1) := by decide +kernel
theorem dX10_broken_1 : decode cX10_broken 1 = .ok (.aload_n 0, 1) := by decide +kernel
theorem dX10_broken_2 : decode cX10_broken 2 = .ok (.getfield 60, 3) := by decide +kernel
theorem dX10_broken_5 : decode cX10_broken 5 = .ok (.getfield 155, 3) := by decide +kernel
theorem dX10_broken_8 : decode cX10_broken 8 = .ok (.invokevirtual 309, 3) := by decide +kernel
theorem dX10_broken_11 : decode cX10_broken 11 = .ok (.ifCond .ne 6, 3) := by decide +kernel
theorem dX10_broken_14 : decode cX10_broken 14 = .ok (.bipush (-2), 2) := by decide +kernel
theorem dX10_broken_16 : decode cX10_broken 16 = .ok (.ireturn, 1) := by decide +kernel
theorem dX10_broken_17 : decode cX10_broken 17 = .ok (.aload_n 0, 1) := by decide +kernel
theorem dX10_broken_18 : decode cX10_broken 18 = .ok (.getfield 80, 3) := by decide +kernel
theorem dX10_broken_21 : decode cX10_broken 21 = .ok (.aload_n 0, 1) := by decide +kernel
theorem dX10_broken_22 : decode cX10_broken 22 = .ok (.getfield 23, 3) := by decide +kernel
theorem dX10_broken_25 : decode cX10_broken 25 = .ok (.aload_n 0, 1) := by decide +kernel
theorem dX10_broken_26 : decode cX10_broken 26 = .ok (.getfield 60, 3) := by decide +kernel
theorem dX10_broken_29 : decode cX10_broken 29 = .ok (.getfield 155, 3) := by decide +kernel
theorem dX10_broken_32 : decode cX10_broken 32 = .ok (.aload_n 0, 1) := by decide +kernel
theorem dX10_broken_33 : decode cX10_broken 33 = .ok (.getfield 23, 3) := by decide +kernel
theorem dX10_broken_36 : decode cX10_broken 36 = .ok (.getfield 151, 3) := by decide +kernel
theorem dX10_broken_39 : decode cX10_broken 39 = .ok (.invokevirtual 312, 3) := by decide +kernel
theorem dX10_broken_42 : decode cX10_broken 42 = .ok (.aload_n 0, 1) := by decide +kernel
theorem dX10_broken_43 : decode cX10_broken 43 = .ok (.getfield 80, 3) := by decide +kernel
theorem dX10_broken_46 : decode cX10_broken 46 = .ok (.aload_n 0, 1) := by decide +kernel
theorem dX10_broken_47 : decode cX10_broken 47 = .ok (.getfield 60, 3) := by decide +kernel
theorem dX10_broken_50 : decode cX10_broken 50 = .ok (.getfield 154, 3) := by decide +kernel
theorem dX10_broken_53 : decode cX10_broken 53 = .ok (.invokevirtual 316, 3) := by decide +kernel
theorem dX10_broken_56 : decode cX10_broken 56 = .ok (.ireturn, 1) := by decide +kernel
theorem dX10_brokenPlan_0 : decode cX10_brokenPlan 0 = .ok (.aload_n 0, 1) := by decide +kernel
theorem dX10_brokenPlan_1 : decode cX10_brokenPlan 1 = .ok (.invokevirtual 325, 3) := by decide +kernel
theorem dX10_brokenPlan_4 : decode cX10_brokenPlan 4 = .ok (.istore_n 2, 1) := by decide +kernel
theorem dX10_brokenPlan_5 : decode cX10_brokenPlan 5 = .ok (.iload_n 2, 1) := by decide +kernel
theorem dX10_brokenPlan_6 : decode cX10_brokenPlan 6 = .ok (.ifCond .ge 5, 3) := by decide +kernel
theorem dX10_brokenPlan_9 : decode cX10_brokenPlan 9 = .ok (.iload_n 2, 1) := by decide +kernel
theorem dX10_brokenPlan_10 : decode cX10_brokenPlan 10 = .ok (.ireturn, 1) := by decide +kernel
theorem dX10_brokenPlan_11 : decode cX10_brokenPlan 11 = .ok (.aload_n 0, 1) := by decide +kernel
theorem dX10_brokenPlan_12 : decode cX10_brokenPlan 12 = .ok (.getfield 84, 3) := by decide +kernel
theorem dX10_brokenPlan_15 : decode cX10_brokenPlan 15 = .ok (.iconst 0, 1) := by decide +kernel
theorem dX10_brokenPlan_16 : decode cX10_brokenPlan 16 = .ok (.putfield 91, 3) := by decide +kernel
theorem dX10_brokenPlan_19 : decode cX10_brokenPlan 19 = .ok (.iconst 0, 1) := by decide +kernel
theorem dX10_brokenPlan_20 : decode cX10_brokenPlan 20 = .ok (.istore_n 3, 1) := by decide +kernel
theorem dX10_brokenPlan_21 : decode cX10_brokenPlan 21 = .ok (.iload_n 3, 1) := by decide +kernel
theorem dX10_brokenPlan_22 : decode cX10_brokenPlan 22 = .ok (.aload_n 0, 1) := by decide +kernel
theorem dX10_brokenPlan_23 : decode cX10_brokenPlan 23 = .ok (.getfield 23, 3) := by decide +kernel
theorem dX10_brokenPlan_26 : decode cX10_brokenPlan 26 = .ok (.getfield 151, 3) := by decide +kernel
theorem dX10_brokenPlan_29 : decode cX10_brokenPlan 29 = .ok (.if_icmp .ge 38, 3) := by decide +kernel
theorem dX10_brokenPlan_32 : decode cX10_brokenPlan 32 = .ok (.iconst 0, 1) := by decide +kernel
theorem dX10_brokenPlan_33 : decode cX10_brokenPlan 33 = .ok (.istore 4, 2) := by decide +kernel
theorem dX10_brokenPlan_35 : decode cX10_brokenPlan 35 = .ok (.iload 4, 2) := by decide +kernel
theorem dX10_brokenPlan_37 : decode cX10_brokenPlan 37 = .ok (.aload_n 0, 1) := by decide +kernel
theorem dX10_brokenPlan_38 : decode cX10_brokenPlan 38 = .ok (.getfield 23, 3) := by decide +kernel
theorem dX10_brokenPlan_41 : decode cX10_brokenPlan 41 = .ok (.invokevirtual 169, 3) := by decide +kernel
theorem dX10_brokenPlan_44 : decode cX10_brokenPlan 44 = .ok (.if_icmp .ge 17, 3) := by decide +kernel
theorem dX10_brokenPlan_47 : decode cX10_brokenPlan 47 = .ok (.aload_n 0, 1) := by decide +kernel
theorem dX10_brokenPlan_48 : decode cX10_brokenPlan 48 = .ok (.iload_n 3, 1) := by decide +kernel
theorem dX10_brokenPlan_49 : decode cX10_brokenPlan 49 = .ok (.iload 4, 2) := by decide +kernel
theorem dX10_brokenPlan_51 : decode cX10_brokenPlan 51 = .ok (.iload_n 2, 1) := by decide +kernel
theorem dX10_brokenPlan_52 : decode cX10_brokenPlan 52 = .ok (.invokevirtual 328, 3) := by decide +kernel
theorem dX10_brokenPlan_55 : decode cX10_brokenPlan 55 = .ok (.iinc 4 1, 3) := by decide +kernel
theorem dX10_brokenPlan_58 : decode cX10_brokenPlan 58 = .ok (.goto (-23), 3) := by decide +kernel
theorem dX10_brokenPlan_61 : decode cX10_brokenPlan 61 = .ok (.iinc 3 1, 3) := by decide +kernel
theorem dX10_brokenPlan_64 : decode cX10_brokenPlan 64 = .ok (.goto (-43), 3) := by decide +kernel
theorem dX10_brokenPlan_67 : decode cX10_brokenPlan 67 = .ok (.aload_n 0, 1) := by decide +kernel
theorem dX10_brokenPlan_68 : decode cX10_brokenPlan 68 = .ok (.iload_n 1, 1) := by decide +kernel
theorem dX10_brokenPlan_69 : decode cX10_brokenPlan 69 = .ok (.invokevirtual 332, 3) := by decide +kernel
theorem dX10_brokenPlan_72 : decode cX10_brokenPlan 72 = .ok (.ireturn, 1) := by decide +kernel
theorem dX10_brokenStarts_0 : decode cX10_brokenStarts 0 = .ok (.iload_n 1, 1) := by decide +kernel
theorem dX10_brokenStarts_1 : decode cX10_brokenStarts 1 = .ok (.ifCond .lt 22, 3) := by decide +kernel
theorem dX10_brokenStarts_4 : decode cX10_brokenStarts 4 = .ok (.iload_n 1, 1) := by decide +kernel
theorem dX10_brokenStarts_5 : decode cX10_brokenStarts 5 = .ok (.iconst 1, 1) := by decide +kernel
theorem dX10_brokenStarts_6 : decode cX10_brokenStarts 6 = .ok (.if_icmp .gt 17, 3) := by decide +kernel
theorem dX10_brokenStarts_9 : decode cX10_brokenStarts 9 = .ok (.aload_n 0, 1) := by decide +kernel
theorem dX10_brokenStarts_10 : decode cX10_brokenStarts 10 = .ok (.aload_n 0, 1) := by decide +kernel
theorem dX10_brokenStarts_11 : decode cX10_brokenStarts 11 = .ok (.getfield 60, 3) := by decide +kernel
theorem dX10_brokenStarts_14 : decode cX10_brokenStarts 14 = .ok (.getfield 155, 3) := by decide +kernel
theorem dX10_brokenStarts_17 : decode cX10_brokenStarts 17 = .ok (.invokevirtual 309, 3) := by decide +kernel
theorem dX10_brokenStarts_20 : decode cX10_brokenStarts 20 = .ok (.ifCond .ne 6, 3) := by decide +kernel
theorem dX10_brokenStarts_23 : decode cX10_brokenStarts 23 = .ok (.bipush (-2), 2) := by decide +kernel
theorem dX10_brokenStarts_25 : decode cX10_brokenStarts 25 = .ok (.ireturn, 1) := by decide +kernel
theorem dX10_brokenStarts_26 : decode cX10_brokenStarts 26 = .ok (.iload_n 1, 1) := by decide +kernel
theorem dX10_brokenStarts_27 : decode cX10_brokenStarts 27 = .ok (.ifCond .ne 17, 3) := by decide +kernel
theorem dX10_brokenStarts_30 : decode cX10_brokenStarts 30 = .ok (.aload_n 0, 1) := by decide +kernel
theorem dX10_brokenStarts_31 : decode cX10_brokenStarts 31 = .ok (.aload_n 0, 1) := by decide +kernel
theorem dX10_brokenStarts_32 : decode cX10_brokenStarts 32 = .ok (.getfield 60, 3) := by decide +kernel
theorem dX10_brokenStarts_35 : decode cX10_brokenStarts 35 = .ok (.getfield 155, 3) := by decide +kernel
theorem dX10_brokenStarts_38 : decode cX10_brokenStarts 38 = .ok (.invokevirtual 319, 3) := by decide +kernel
theorem dX10_brokenStarts_41 : decode cX10_brokenStarts 41 = .ok (.goto 14, 3) := by decide +kernel
theorem dX10_brokenStarts_44 : decode cX10_brokenStarts 44 = .ok (.aload_n 0, 1) := by decide +kernel
theorem dX10_brokenStarts_45 : decode cX10_brokenStarts 45 = .ok (.aload_n 0, 1) := by decide +kernel
theorem dX10_brokenStarts_46 : decode cX10_brokenStarts 46 = .ok (.getfield 60, 3) := by decide +kernel
theorem dX10_brokenStarts_49 : decode cX10_brokenStarts 49 = .ok (.getfield 155, 3) := by decide +kernel
theorem dX10_brokenStarts_52 : decode cX10_brokenStarts 52 = .ok (.invokevirtual 322, 3) := by decide +kernel
theorem dX10_brokenStarts_55 : decode cX10_brokenStarts 55 = .ok (.ireturn, 1) := by decide +kernel
theorem dX10_byChance_0 : decode cX10_byChance 0 = .ok (.aload_n 0, 1) := by decide +kernel
theorem dX10_byChance_1 : decode cX10_byChance 1 = .ok (.getfield 108, 3) := by decide +kernel
theorem dX10_byChance_4 : decode cX10_byChance 4 = .ok (.ifCond .eq 26, 3) := by decide +kernel
theorem dX10_byChance_7 : decode cX10_byChance 7 = .ok (.iload_n 1, 1) := by decide +kernel
theorem dX10_byChance_8 : decode cX10_byChance 8 = .ok (.iconst 1, 1) := by decide +kernel
theorem dX10_byChance_9 : decode cX10_byChance 9 = .ok (.if_icmp .lt 21, 3) := by decide +kernel
theorem dX10_byChance_12 : decode cX10_byChance 12 = .ok (.iload_n 1, 1) := by decide +kernel
theorem dX10_byChance_13 : decode cX10_byChance 13 = .ok (.sipush 200, 3) := by decide +kernel
theorem dX10_byChance_16 : decode cX10_byChance 16 = .ok (.if_icmp .gt 14, 3) := by decide +kernel
theorem dX10_byChance_19 : decode cX10_byChance 19 = .ok (.iload 4, 2) := by decide +kernel
theorem dX10_byChance_21 : decode cX10_byChance 21 = .ok (.ifCond .lt 9, 3) := by decide +kernel
theorem dX10_byChance_24 : decode cX10_byChance 24 = .ok (.iload 4, 2) := by decide +kernel
theorem dX10_byChance_26 : decode cX10_byChance 26 = .ok (.iconst 3, 1) := by decide +kernel
theorem dX10_byChance_27 : decode cX10_byChance 27 = .ok (.if_icmp .le 6, 3) := by decide +kernel
theorem dX10_byChance_30 : decode cX10_byChance 30 = .ok (.bipush (-2), 2) := by decide +kernel
theorem dX10_byChance_32 : decode cX10_byChance 32 = .ok (.ireturn, 1) := by decide +kernel
theorem dX10_byChance_33 : decode cX10_byChance 33 = .ok (.iconst 0, 1) := by decide +kernel
theorem dX10_byChance_34 : decode cX10_byChance 34 = .ok (.istore 5, 2) := by decide +kernel
theorem dX10_byChance_36 : decode cX10_byChance 36 = .ok (.iconst 0, 1) := by decide +kernel
theorem dX10_byChance_37 : decode cX10_byChance 37 = .ok (.istore 6, 2) := by decide +kernel
theorem dX10_byChance_39 : decode cX10_byChance 39 = .ok (.iconst (-1), 1) := by decide +kernel
theorem dX10_byChance_40 : decode cX10_byChance 40 = .ok (.istore 7, 2) := by decide +kernel
theorem dX10_byChance_42 : decode cX10_byChance 42 = .ok (.iconst 0, 1) := by decide +kernel
theorem dX10_byChance_43 : decode cX10_byChance 43 = .ok (.istore 8, 2) := by decide +kernel
theorem dX10_byChance_45 : decode cX10_byChance 45 = .ok (.iconst 0, 1) := by decide +kernel
theorem dX10_byChance_46 : decode cX10_byChance 46 = .ok (.istore 9, 2) := by decide +kernel
theorem dX10_byChance_48 : decode cX10_byChance 48 = .ok (.iload 9, 2) := by decide +kernel
theorem dX10_byChance_50 : decode cX10_byChance 50 = .ok (.iload_n 1, 1) := by decide +kernel
theorem dX10_byChance_51 : decode cX10_byChance 51 = .ok (.if_icmp .ge 107, 3) := by decide +kernel
theorem dX10_byChance_54 : decode cX10_byChance 54 = .ok (.aload_n 0, 1) := by decide +kernel
theorem dX10_byChance_55 : decode cX10_byChance 55 = .ok (.aload_n 0, 1) := by decide +kernel
theorem dX10_byChance_56 : decode cX10_byChance 56 = .ok (.getfield 23, 3) := by decide +kernel
theorem dX10_byChance_59 : decode cX10_byChance 59 = .ok (.aload_n 0, 1) := by decide +kernel
theorem dX10_byChance_60 : decode cX10_byChance 60 = .ok (.getfield 46, 3) := by decide +kernel
theorem dX10_byChance_63 : decode cX10_byChance 63 = .ok (.lload_n 2, 1) := by decide +kernel
theorem dX10_byChance_64 : decode cX10_byChance 64 = .ok (.iload 9, 2) := by decide +kernel
theorem dX10_byChance_66 : decode cX10_byChance 66 = .ok (.i2l, 1) := by decide +kernel
theorem dX10_byChance_67 : decode cX10_byChance 67 = .ok (.ladd, 1) := by decide +kernel
theorem dX10_byChance_68 : decode cX10_byChance 68 = .ok (.invokevirtual 347, 3) := by decide +kernel
theorem dX10_byChance_71 : decode cX10_byChance 71 = .ok (.iload 6, 2) := by decide +kernel
theorem dX10_byChance_73 : decode cX10_byChance 73 = .ok (.aload_n 0, 1) := by decide +kernel
theorem dX10_byChance_74 : decode cX10_byChance 74 = .ok (.getfield 67, 3) := by decide +kernel
theorem dX10_byChance_77 : decode cX10_byChance 77 = .ok (.getfield 291, 3) := by decide +kernel
theorem dX10_byChance_80 : decode cX10_byChance 80 = .ok (.iadd, 1) := by decide +kernel
theorem dX10_byChance_81 : decode cX10_byChance 81 = .ok (.istore 6, 2) := by decide +kernel
theorem dX10_byChance_83 : decode cX10_byChance 83 = .ok (.aload_n 0, 1) := by decide +kernel
theorem dX10_byChance_84 : decode cX10_byChance 84 = .ok (.getfield 67, 3) := by decide +kernel
theorem dX10_byChance_87 : decode cX10_byChance 87 = .ok (.aload_n 0, 1) := by decide +kernel
theorem dX10_byChance_88 : decode cX10_byChance 88 = .ok (.getfield 23, 3) := by decide +kernel
theorem dX10_byChance_91 : decode cX10_byChance 91 = .ok (.aload_n 0, 1) := by decide +kernel
theorem dX10_byChance_92 : decode cX10_byChance 92 = .ok (.getfield 67, 3) := by decide +kernel
theorem dX10_byChance_95 : decode cX10_byChance 95 = .ok (.getfield 211, 3) := by decide +kernel
theorem dX10_byChance_98 : decode cX10_byChance 98 = .ok (.invokevirtual 276, 3) := by decide +kernel
theorem dX10_byChance_101 : decode cX10_byChance 101 = .ok (.ifCond .eq 41, 3) := by decide +kernel
theorem dX10_byChance_104 : decode cX10_byChance 104 = .ok (.iinc 5 1, 3) := by decide +kernel
theorem dX10_byChance_107 : decode cX10_byChance 107 = .ok (.iload 8, 2) := by decide +kernel
theorem dX10_byChance_109 : decode cX10_byChance 109 = .ok (.aload_n 0, 1) := by decide +kernel
theorem dX10_byChance_110 : decode cX10_byChance 110 = .ok (.getfield 67, 3) := by decide +kernel
theorem dX10_byChance_113 : decode cX10_byChance 113 = .ok (.getfield 211, 3) := by decide +kernel
theorem dX10_byChance_116 : decode cX10_byChance 116 = .ok (.aload_n 0, 1) := by decide +kernel
theorem dX10_byChance_117 : decode cX10_byChance 117 = .ok (.getfield 67, 3) := by decide +kernel
theorem dX10_byChance_120 : decode cX10_byChance 120 = .ok (.aload_n 0, 1) := by decide +kernel
theorem dX10_byChance_121 : decode cX10_byChance 121 = .ok (.getfield 23, 3) := by decide +kernel
theorem dX10_byChance_124 : decode cX10_byChance 124 = .ok (.invokevirtual 280, 3) := by decide +kernel
theorem dX10_byChance_127 : decode cX10_byChance 127 = .ok (.iand, 1) := by decide +kernel
theorem dX10_byChance_128 : decode cX10_byChance 128 = .ok (.ifCond .eq 7, 3) := by decide +kernel
theorem dX10_byChance_131 : decode cX10_byChance 131 = .ok (.iconst 1, 1) := by decide +kernel
theorem dX10_byChance_132 : decode cX10_byChance 132 = .ok (.goto 4, 3) := by decide +kernel
theorem dX10_byChance_135 : decode cX10_byChance 135 = .ok (.iconst 0, 1) := by decide +kernel
theorem dX10_byChance_136 : decode cX10_byChance 136 = .ok (.iadd, 1) := by decide +kernel
theorem dX10_byChance_137 : decode cX10_byChance 137 = .ok (.istore 8, 2) := by decide +kernel
theorem dX10_byChance_139 : decode cX10_byChance 139 = .ok (.goto 13, 3) := by decide +kernel
theorem dX10_byChance_142 : decode cX10_byChance 142 = .ok (.iload 7, 2) := by decide +kernel
theorem dX10_byChance_144 : decode cX10_byChance 144 = .ok (.iconst (-1), 1) := by decide +kernel
theorem dX10_byChance_145 : decode cX10_byChance 145 = .ok (.if_icmp .ne 7, 3) := by decide +kernel
theorem dX10_byChance_148 : decode cX10_byChance 148 = .ok (.iload 9, 2) := by decide +kernel
theorem dX10_byChance_150 : decode cX10_byChance 150 = .ok (.istore 7, 2) := by decide +kernel
theorem dX10_byChance_152 : decode cX10_byChance 152 = .ok (.iinc 9 1, 3) := by decide +kernel
theorem dX10_byChance_155 : decode cX10_byChance 155 = .ok (.goto (-107), 3) := by decide +kernel
theorem dX10_byChance_158 : decode cX10_byChance 158 = .ok (.iload 4, 2) := by decide +kernel
theorem dX10_byChance_160 : decode cX10_byChance 160 = .ok (.tableswitch 37 0 2 #[28, 31, 34], 28) := by decide +kernel
theorem dX10_byChance_188 : decode cX10_byChance 188 = .ok (.iload 5, 2) := by decide +kernel
theorem dX10_byChance_190 : decode cX10_byChance 190 = .ok (.ireturn, 1) := by decide +kernel
theorem dX10_byChance_191 : decode cX10_byChance 191 = .ok (.iload 6, 2) := by decide +kernel
theorem dX10_byChance_193 : decode cX10_byChance 193 = .ok (.ireturn, 1) := by decide +kernel
theorem dX10_byChance_194 : decode cX10_byChance 194 = .ok (.iload 7, 2) := by decide +kernel
theorem dX10_byChance_196 : decode cX10_byChance 196 = .ok (.ireturn, 1) := by decide +kernel
theorem dX10_byChance_197 : decode cX10_byChance 197 = .ok (.iload 8, 2) := by decide +kernel
theorem dX10_byChance_199 : decode cX10_byChance 199 = .ok (.ireturn, 1) := by decide +kernel
theorem dX10_canBreak_0 : decode cX10_canBreak 0 = .ok (.iload_n 1, 1) := by decide +kernel
theorem dX10_canBreak_1 : decode cX10_canBreak 1 = .ok (.ifCond .lt 26, 3) := by decide +kernel
theorem dX10_canBreak_4 : decode cX10_canBreak 4 = .ok (.iload_n 1, 1) := by decide +kernel
theorem dX10_canBreak_5 : decode cX10_canBreak 5 = .ok (.iconst 1, 1) := by decide +kernel
theorem dX10_canBreak_6 : decode cX10_canBreak 6 = .ok (.if_icmp .gt 21, 3) := by decide +kernel
theorem dX10_canBreak_9 : decode cX10_canBreak 9 = .ok (.aload_n 0, 1) := by decide +kernel
theorem dX10_canBreak_10 : decode cX10_canBreak 10 = .ok (.getfield 108, 3) := by decide +kernel
theorem dX10_canBreak_13 : decode cX10_canBreak 13 = .ok (.ifCond .eq 14, 3) := by decide +kernel
theorem dX10_canBreak_16 : decode cX10_canBreak 16 = .ok (.aload_n 0, 1) := by decide +kernel
theorem dX10_canBreak_17 : decode cX10_canBreak 17 = .ok (.getfield 23, 3) := by decide +kernel
theorem dX10_canBreak_20 : decode cX10_canBreak 20 = .ok (.getfield 132, 3) := by decide +kernel
theorem dX10_canBreak_23 : decode cX10_canBreak 23 = .ok (.iconst 5, 1) := by decide +kernel
theorem dX10_canBreak_24 : decode cX10_canBreak 24 = .ok (.if_icmp .le 6, 3) := by decide +kernel
theorem dX10_canBreak_27 : decode cX10_canBreak 27 = .ok (.bipush (-2), 2) := by decide +kernel
theorem dX10_canBreak_29 : decode cX10_canBreak 29 = .ok (.ireturn, 1) := by decide +kernel
theorem dX10_canBreak_30 : decode cX10_canBreak 30 = .ok (.iconst 0, 1) := by decide +kernel
theorem dX10_canBreak_31 : decode cX10_canBreak 31 = .ok (.istore_n 2, 1) := by decide +kernel
theorem dX10_canBreak_32 : decode cX10_canBreak 32 = .ok (.iconst (-1), 1) := by decide +kernel
theorem dX10_canBreak_33 : decode cX10_canBreak 33 = .ok (.istore_n 3, 1) := by decide +kernel
theorem dX10_canBreak_34 : decode cX10_canBreak 34 = .ok (.iconst 0, 1) := by decide +kernel
theorem dX10_canBreak_35 : decode cX10_canBreak 35 = .ok (.istore 4, 2) := by decide +kernel
theorem dX10_canBreak_37 : decode cX10_canBreak 37 = .ok (.iload 4, 2) := by decide +kernel
theorem dX10_canBreak_39 : decode cX10_canBreak 39 = .ok (.aload_n 0, 1) := by decide +kernel
theorem dX10_canBreak_40 : decode cX10_canBreak 40 = .ok (.getfield 23, 3) := by decide +kernel
theorem dX10_canBreak_43 : decode cX10_canBreak 43 = .ok (.invokevirtual 205, 3) := by decide +kernel
theorem dX10_canBreak_46 : decode cX10_canBreak 46 = .ok (.if_icmp .ge 67, 3) := by decide +kernel
theorem dX10_canBreak_49 : decode cX10_canBreak 49 = .ok (.iload 4, 2) := by decide +kernel
theorem dX10_canBreak_51 : decode cX10_canBreak 51 = .ok (.invokestatic 283, 3) := by decide +kernel
theorem dX10_canBreak_54 : decode cX10_canBreak 54 = .ok (.aload_n 0, 1) := by decide +kernel
theorem dX10_canBreak_55 : decode cX10_canBreak 55 = .ok (.getfield 60, 3) := by decide +kernel
theorem dX10_canBreak_58 : decode cX10_canBreak 58 = .ok (.getfield 155, 3) := by decide +kernel
theorem dX10_canBreak_61 : decode cX10_canBreak 61 = .ok (.invokestatic 283, 3) := by decide +kernel
theorem dX10_canBreak_64 : decode cX10_canBreak 64 = .ok (.if_icmp .eq 6, 3) := by decide +kernel
theorem dX10_canBreak_67 : decode cX10_canBreak 67 = .ok (.goto 40, 3) := by decide +kernel
theorem dX10_canBreak_70 : decode cX10_canBreak 70 = .ok (.aload_n 0, 1) := by decide +kernel
theorem dX10_canBreak_71 : decode cX10_canBreak 71 = .ok (.iload 4, 2) := by decide +kernel
theorem dX10_canBreak_73 : decode cX10_canBreak 73 = .ok (.invokevirtual 309, 3) := by decide +kernel
theorem dX10_canBreak_76 : decode cX10_canBreak 76 = .ok (.ifCond .ne 6, 3) := by decide +kernel
theorem dX10_canBreak_79 : decode cX10_canBreak 79 = .ok (.bipush (-2), 2) := by decide +kernel
theorem dX10_canBreak_81 : decode cX10_canBreak 81 = .ok (.ireturn, 1) := by decide +kernel
theorem dX10_canBreak_82 : decode cX10_canBreak 82 = .ok (.aload_n 0, 1) := by decide +kernel
theorem dX10_canBreak_83 : decode cX10_canBreak 83 = .ok (.iload 4, 2) := by decide +kernel
theorem dX10_canBreak_85 : decode cX10_canBreak 85 = .ok (.invokevirtual 322, 3) := by decide +kernel
theorem dX10_canBreak_88 : decode cX10_canBreak 88 = .ok (.iconst (-1), 1) := by decide +kernel
theorem dX10_canBreak_89 : decode cX10_canBreak 89 = .ok (.if_icmp .eq 18, 3) := by decide +kernel
theorem dX10_canBreak_92 : decode cX10_canBreak 92 = .ok (.iinc 2 1, 3) := by decide +kernel
theorem dX10_canBreak_95 : decode cX10_canBreak 95 = .ok (.iload_n 3, 1) := by decide +kernel
theorem dX10_canBreak_96 : decode cX10_canBreak 96 = .ok (.iconst (-1), 1) := by decide +kernel
theorem dX10_canBreak_97 : decode cX10_canBreak 97 = .ok (.if_icmp .ne 8, 3) := by decide +kernel
theorem dX10_canBreak_100 : decode cX10_canBreak 100 = .ok (.iload 4, 2) := by decide +kernel
theorem dX10_canBreak_102 : decode cX10_canBreak 102 = .ok (.goto 4, 3) := by decide +kernel
theorem dX10_canBreak_105 : decode cX10_canBreak 105 = .ok (.iload_n 3, 1) := by decide +kernel
theorem dX10_canBreak_106 : decode cX10_canBreak 106 = .ok (.istore_n 3, 1) := by decide +kernel
theorem dX10_canBreak_107 : decode cX10_canBreak 107 = .ok (.iinc 4 1, 3) := by decide +kernel
theorem dX10_canBreak_110 : decode cX10_canBreak 110 = .ok (.goto (-73), 3) := by decide +kernel
theorem dX10_canBreak_113 : decode cX10_canBreak 113 = .ok (.iload_n 1, 1) := by decide +kernel
theorem dX10_canBreak_114 : decode cX10_canBreak 114 = .ok (.ifCond .ne 7, 3) := by decide +kernel
theorem dX10_canBreak_117 : decode cX10_canBreak 117 = .ok (.iload_n 2, 1) := by decide +kernel
theorem dX10_canBreak_118 : decode cX10_canBreak 118 = .ok (.goto 4, 3) := by decide +kernel
theorem dX10_canBreak_121 : decode cX10_canBreak 121 = .ok (.iload_n 3, 1) := by decide +kernel
theorem dX10_canBreak_122 : decode cX10_canBreak 122 = .ok (.ireturn, 1) := by decide +kernel
theorem dX10_council_0 : decode cX10_council 0 = .ok (.aload_n 0, 1) := by decide +kernel
theorem dX10_council_1 : decode cX10_council 1 = .ok (.getfield 19, 3) := by decide +kernel
theorem dX10_council_4 : decode cX10_council 4 = .ok (.aload_n 0, 1) := by decide +kernel
theorem dX10_council_5 : decode cX10_council 5 = .ok (.getfield 10, 3) := by decide +kernel
theorem dX10_council_8 : decode cX10_council 8 = .ok (.invokevirtual 99, 3) := by decide +kernel
theorem dX10_council_11 : decode cX10_council 11 = .ok (.iconst (-1), 1) := by decide +kernel
theorem dX10_council_12 : decode cX10_council 12 = .ok (.if_icmp .eq 5, 3) := by decide +kernel
theorem dX10_council_15 : decode cX10_council 15 = .ok (.iconst (-1), 1) := by decide +kernel
theorem dX10_council_16 : decode cX10_council 16 = .ok (.ireturn, 1) := by decide +kernel
theorem dX10_council_17 : decode cX10_council 17 = .ok (.aload_n 0, 1) := by decide +kernel
theorem dX10_council_18 : decode cX10_council 18 = .ok (.getfield 10, 3) := by decide +kernel
theorem dX10_council_21 : decode cX10_council 21 = .ok (.iconst 0, 1) := by decide +kernel
theorem dX10_council_22 : decode cX10_council 22 = .ok (.putfield 91, 3) := by decide +kernel
theorem dX10_council_25 : decode cX10_council 25 = .ok (.aload_n 0, 1) := by decide +kernel
theorem dX10_council_26 : decode cX10_council 26 = .ok (.getfield 23, 3) := by decide +kernel
theorem dX10_council_29 : decode cX10_council 29 = .ok (.aload_n 0, 1) := by decide +kernel
theorem dX10_council_30 : decode cX10_council 30 = .ok (.getfield 19, 3) := by decide +kernel
theorem dX10_council_33 : decode cX10_council 33 = .ok (.invokevirtual 104, 3) := by decide +kernel
theorem dX10_council_36 : decode cX10_council 36 = .ok (.aload_n 0, 1) := by decide +kernel
theorem dX10_council_37 : decode cX10_council 37 = .ok (.iconst 1, 1) := by decide +kernel
theorem dX10_council_38 : decode cX10_council 38 = .ok (.putfield 108, 3) := by decide +kernel
theorem dX10_council_41 : decode cX10_council 41 = .ok (.aload_n 0, 1) := by decide +kernel
theorem dX10_council_42 : decode cX10_council 42 = .ok (.iconst 0, 1) := by decide +kernel
theorem dX10_council_43 : decode cX10_council 43 = .ok (.putfield 112, 3) := by decide +kernel
theorem dX10_council_46 : decode cX10_council 46 = .ok (.aload_n 0, 1) := by decide +kernel
theorem dX10_council_47 : decode cX10_council 47 = .ok (.lload_n 1, 1) := by decide +kernel
theorem dX10_council_48 : decode cX10_council 48 = .ok (.putfield 115, 3) := by decide +kernel
theorem dX10_council_51 : decode cX10_council 51 = .ok (.aload_n 0, 1) := by decide +kernel
theorem dX10_council_52 : decode cX10_council 52 = .ok (.getfield 73, 3) := by decide +kernel
theorem dX10_council_55 : decode cX10_council 55 = .ok (.iconst 0, 1) := by decide +kernel
theorem dX10_council_56 : decode cX10_council 56 = .ok (.putfield 119, 3) := by decide +kernel
theorem dX10_council_59 : decode cX10_council 59 = .ok (.aload_n 0, 1) := by decide +kernel
theorem dX10_council_60 : decode cX10_council 60 = .ok (.getfield 60, 3) := by decide +kernel
theorem dX10_council_63 : decode cX10_council 63 = .ok (.aload_n 0, 1) := by decide +kernel
theorem dX10_council_64 : decode cX10_council 64 = .ok (.getfield 23, 3) := by decide +kernel
theorem dX10_council_67 : decode cX10_council 67 = .ok (.getfield 122, 3) := by decide +kernel
theorem dX10_council_70 : decode cX10_council 70 = .ok (.aload_n 0, 1) := by decide +kernel
theorem dX10_council_71 : decode cX10_council 71 = .ok (.getfield 23, 3) := by decide +kernel
theorem dX10_council_74 : decode cX10_council 74 = .ok (.getfield 125, 3) := by decide +kernel
theorem dX10_council_77 : decode cX10_council 77 = .ok (.lload_n 1, 1) := by decide +kernel
theorem dX10_council_78 : decode cX10_council 78 = .ok (.invokevirtual 128, 3) := by decide +kernel
theorem dX10_council_81 : decode cX10_council 81 = .ok (.aload_n 0, 1) := by decide +kernel
theorem dX10_council_82 : decode cX10_council 82 = .ok (.getfield 23, 3) := by decide +kernel
theorem dX10_council_85 : decode cX10_council 85 = .ok (.getfield 132, 3) := by decide +kernel
theorem dX10_council_88 : decode cX10_council 88 = .ok (.ireturn, 1) := by decide +kernel
theorem dX10_count_0 : decode cX10_count 0 = .ok (.iload_n 1, 1) := by decide +kernel
theorem dX10_count_1 : decode cX10_count 1 = .ok (.tableswitch 51 0 2 #[27, 35, 43], 27) := by decide +kernel
theorem dX10_count_28 : decode cX10_count 28 = .ok (.aload_n 0, 1) := by decide +kernel
theorem dX10_count_29 : decode cX10_count 29 = .ok (.getfield 10, 3) := by decide +kernel
theorem dX10_count_32 : decode cX10_count 32 = .ok (.getfield 91, 3) := by decide +kernel
theorem dX10_count_35 : decode cX10_count 35 = .ok (.ireturn, 1) := by decide +kernel
theorem dX10_count_36 : decode cX10_count 36 = .ok (.aload_n 0, 1) := by decide +kernel
theorem dX10_count_37 : decode cX10_count 37 = .ok (.getfield 73, 3) := by decide +kernel
theorem dX10_count_40 : decode cX10_count 40 = .ok (.getfield 119, 3) := by decide +kernel
theorem dX10_count_43 : decode cX10_count 43 = .ok (.ireturn, 1) := by decide +kernel
theorem dX10_count_44 : decode cX10_count 44 = .ok (.aload_n 0, 1) := by decide +kernel
theorem dX10_count_45 : decode cX10_count 45 = .ok (.getfield 60, 3) := by decide +kernel
theorem dX10_count_48 : decode cX10_count 48 = .ok (.getfield 159, 3) := by decide +kernel
theorem dX10_count_51 : decode cX10_count 51 = .ok (.ireturn, 1) := by decide +kernel
theorem dX10_count_52 : decode cX10_count 52 = .ok (.iconst (-1), 1) := by decide +kernel
theorem dX10_count_53 : decode cX10_count 53 = .ok (.ireturn, 1) := by decide +kernel
theorem dX10_end_0 : decode cX10_end 0 = .ok (.iload_n 1, 1) := by decide +kernel
theorem dX10_end_1 : decode cX10_end 1 = .ok (.ifCond .lt 14, 3) := by decide +kernel
theorem dX10_end_4 : decode cX10_end 4 = .ok (.iload_n 1, 1) := by decide +kernel
theorem dX10_end_5 : decode cX10_end 5 = .ok (.aload_n 0, 1) := by decide +kernel
theorem dX10_end_6 : decode cX10_end 6 = .ok (.getfield 10, 3) := by decide +kernel
theorem dX10_end_9 : decode cX10_end 9 = .ok (.getfield 91, 3) := by decide +kernel
theorem dX10_end_12 : decode cX10_end 12 = .ok (.if_icmp .le 5, 3) := by decide +kernel
theorem dX10_end_15 : decode cX10_end 15 = .ok (.iconst 0, 1) := by decide +kernel
theorem dX10_end_16 : decode cX10_end 16 = .ok (.ireturn, 1) := by decide +kernel
theorem dX10_end_17 : decode cX10_end 17 = .ok (.aload_n 0, 1) := by decide +kernel
theorem dX10_end_18 : decode cX10_end 18 = .ok (.getfield 10, 3) := by decide +kernel
theorem dX10_end_21 : decode cX10_end 21 = .ok (.iload_n 1, 1) := by decide +kernel
theorem dX10_end_22 : decode cX10_end 22 = .ok (.putfield 91, 3) := by decide +kernel
theorem dX10_end_25 : decode cX10_end 25 = .ok (.iconst 1, 1) := by decide +kernel
theorem dX10_end_26 : decode cX10_end 26 = .ok (.ireturn, 1) := by decide +kernel
theorem dX10_falseOnes_0 : decode cX10_falseOnes 0 = .ok (.aload_n 0, 1) := by decide +kernel
theorem dX10_falseOnes_1 : decode cX10_falseOnes 1 = .ok (.iload_n 1, 1) := by decide +kernel
theorem dX10_falseOnes_2 : decode cX10_falseOnes 2 = .ok (.aload_n 0, 1) := by decide +kernel
theorem dX10_falseOnes_3 : decode cX10_falseOnes 3 = .ok (.getfield 23, 3) := by decide +kernel
theorem dX10_falseOnes_6 : decode cX10_falseOnes 6 = .ok (.invokevirtual 205, 3) := by decide +kernel
theorem dX10_falseOnes_9 : decode cX10_falseOnes 9 = .ok (.iconst 1, 1) := by decide +kernel
theorem dX10_falseOnes_10 : decode cX10_falseOnes 10 = .ok (.isub, 1) := by decide +kernel
theorem dX10_falseOnes_11 : decode cX10_falseOnes 11 = .ok (.invokevirtual 208, 3) := by decide +kernel
theorem dX10_falseOnes_14 : decode cX10_falseOnes 14 = .ok (.istore_n 2, 1) := by decide +kernel
theorem dX10_falseOnes_15 : decode cX10_falseOnes 15 = .ok (.iload_n 2, 1) := by decide +kernel
theorem dX10_falseOnes_16 : decode cX10_falseOnes 16 = .ok (.iconst (-1), 1) := by decide +kernel
theorem dX10_falseOnes_17 : decode cX10_falseOnes 17 = .ok (.if_icmp .eq 9, 3) := by decide +kernel
theorem dX10_falseOnes_20 : decode cX10_falseOnes 20 = .ok (.aload_n 0, 1) := by decide +kernel
theorem dX10_falseOnes_21 : decode cX10_falseOnes 21 = .ok (.iload_n 2, 1) := by decide +kernel
theorem dX10_falseOnes_22 : decode cX10_falseOnes 22 = .ok (.invokevirtual 198, 3) := by decide +kernel
theorem dX10_falseOnes_25 : decode cX10_falseOnes 25 = .ok (.ireturn, 1) := by decide +kernel
theorem dX10_falseOnes_26 : decode cX10_falseOnes 26 = .ok (.aload_n 0, 1) := by decide +kernel
theorem dX10_falseOnes_27 : decode cX10_falseOnes 27 = .ok (.getfield 60, 3) := by decide +kernel
theorem dX10_falseOnes_30 : decode cX10_falseOnes 30 = .ok (.getfield 155, 3) := by decide +kernel
theorem dX10_falseOnes_33 : decode cX10_falseOnes 33 = .ok (.istore_n 3, 1) := by decide +kernel
theorem dX10_falseOnes_34 : decode cX10_falseOnes 34 = .ok (.aload_n 0, 1) := by decide +kernel
theorem dX10_falseOnes_35 : decode cX10_falseOnes 35 = .ok (.getfield 73, 3) := by decide +kernel
theorem dX10_falseOnes_38 : decode cX10_falseOnes 38 = .ok (.aload_n 0, 1) := by decide +kernel
theorem dX10_falseOnes_39 : decode cX10_falseOnes 39 = .ok (.getfield 60, 3) := by decide +kernel
theorem dX10_falseOnes_42 : decode cX10_falseOnes 42 = .ok (.invokevirtual 186, 3) := by decide +kernel
theorem dX10_falseOnes_45 : decode cX10_falseOnes 45 = .ok (.aload_n 0, 1) := by decide +kernel
theorem dX10_falseOnes_46 : decode cX10_falseOnes 46 = .ok (.getfield 60, 3) := by decide +kernel
theorem dX10_falseOnes_49 : decode cX10_falseOnes 49 = .ok (.iload_n 1, 1) := by decide +kernel
theorem dX10_falseOnes_50 : decode cX10_falseOnes 50 = .ok (.putfield 155, 3) := by decide +kernel
theorem dX10_falseOnes_53 : decode cX10_falseOnes 53 = .ok (.aload_n 0, 1) := by decide +kernel
theorem dX10_falseOnes_54 : decode cX10_falseOnes 54 = .ok (.getfield 60, 3) := by decide +kernel
theorem dX10_falseOnes_57 : decode cX10_falseOnes 57 = .ok (.invokevirtual 214, 3) := by decide +kernel
theorem dX10_falseOnes_60 : decode cX10_falseOnes 60 = .ok (.iload_n 3, 1) := by decide +kernel
theorem dX10_falseOnes_61 : decode cX10_falseOnes 61 = .ok (.ireturn, 1) := by decide +kernel
theorem dX10_fault_0 : decode cX10_fault 0 = .ok (.iload_n 1, 1) := by decide +kernel
theorem dX10_fault_1 : decode cX10_fault 1 = .ok (.lookupswitch 51 #[(0, 27), (1, 39)], 27) := by decide +kernel
theorem dX10_fault_28 : decode cX10_fault 28 = .ok (.aload_n 0, 1) := by decide +kernel
theorem dX10_fault_29 : decode cX10_fault 29 = .ok (.getfield 19, 3) := by decide +kernel
theorem dX10_fault_32 : decode cX10_fault 32 = .ok (.aload_n 0, 1) := by decide +kernel
theorem dX10_fault_33 : decode cX10_fault 33 = .ok (.getfield 10, 3) := by decide +kernel
theorem dX10_fault_36 : decode cX10_fault 36 = .ok (.invokevirtual 99, 3) := by decide +kernel
theorem dX10_fault_39 : decode cX10_fault 39 = .ok (.ireturn, 1) := by decide +kernel
theorem dX10_fault_40 : decode cX10_fault 40 = .ok (.aload_n 0, 1) := by decide +kernel
theorem dX10_fault_41 : decode cX10_fault 41 = .ok (.getfield 32, 3) := by decide +kernel
theorem dX10_fault_44 : decode cX10_fault 44 = .ok (.aload_n 0, 1) := by decide +kernel
theorem dX10_fault_45 : decode cX10_fault 45 = .ok (.getfield 10, 3) := by decide +kernel
theorem dX10_fault_48 : decode cX10_fault 48 = .ok (.invokevirtual 103, 3) := by decide +kernel
theorem dX10_fault_51 : decode cX10_fault 51 = .ok (.ireturn, 1) := by decide +kernel
theorem dX10_fault_52 : decode cX10_fault 52 = .ok (.bipush (-2), 2) := by decide +kernel
theorem dX10_fault_54 : decode cX10_fault 54 = .ok (.ireturn, 1) := by decide +kernel
theorem dX10_free_0 : decode cX10_free 0 = .ok (.aload_n 0, 1) := by decide +kernel
theorem dX10_free_1 : decode cX10_free 1 = .ok (.getfield 108, 3) := by decide +kernel
theorem dX10_free_4 : decode cX10_free 4 = .ok (.ifCond .eq 17, 3) := by decide +kernel
theorem dX10_free_7 : decode cX10_free 7 = .ok (.aload_n 0, 1) := by decide +kernel
theorem dX10_free_8 : decode cX10_free 8 = .ok (.aload_n 0, 1) := by decide +kernel
theorem dX10_free_9 : decode cX10_free 9 = .ok (.getfield 60, 3) := by decide +kernel
theorem dX10_free_12 : decode cX10_free 12 = .ok (.getfield 155, 3) := by decide +kernel
theorem dX10_free_15 : decode cX10_free 15 = .ok (.invokevirtual 306, 3) := by decide +kernel
theorem dX10_free_18 : decode cX10_free 18 = .ok (.goto 4, 3) := by decide +kernel
theorem dX10_free_21 : decode cX10_free 21 = .ok (.iconst (-1), 1) := by decide +kernel
theorem dX10_free_22 : decode cX10_free 22 = .ok (.ireturn, 1) := by decide +kernel
theorem dX10_greatest_0 : decode cX10_greatest 0 = .ok (.iload_n 1, 1) := by decide +kernel
theorem dX10_greatest_1 : decode cX10_greatest 1 = .ok (.ifCond .lt 19, 3) := by decide +kernel
theorem dX10_greatest_4 : decode cX10_greatest 4 = .ok (.iload_n 1, 1) := by decide +kernel
theorem dX10_greatest_5 : decode cX10_greatest 5 = .ok (.iconst 1, 1) := by decide +kernel
theorem dX10_greatest_6 : decode cX10_greatest 6 = .ok (.if_icmp .gt 14, 3) := by decide +kernel
theorem dX10_greatest_9 : decode cX10_greatest 9 = .ok (.iload_n 2, 1) := by decide +kernel
theorem dX10_greatest_10 : decode cX10_greatest 10 = .ok (.iconst 1, 1) := by decide +kernel
theorem dX10_greatest_11 : decode cX10_greatest 11 = .ok (.if_icmp .lt 9, 3) := by decide +kernel
theorem dX10_greatest_14 : decode cX10_greatest 14 = .ok (.iload_n 2, 1) := by decide +kernel
theorem dX10_greatest_15 : decode cX10_greatest 15 = .ok (.bipush 100, 2) := by decide +kernel
theorem dX10_greatest_17 : decode cX10_greatest 17 = .ok (.if_icmp .le 5, 3) := by decide +kernel
theorem dX10_greatest_20 : decode cX10_greatest 20 = .ok (.iconst (-1), 1) := by decide +kernel
theorem dX10_greatest_21 : decode cX10_greatest 21 = .ok (.ireturn, 1) := by decide +kernel
theorem dX10_greatest_22 : decode cX10_greatest 22 = .ok (.iload_n 1, 1) := by decide +kernel
theorem dX10_greatest_23 : decode cX10_greatest 23 = .ok (.iload_n 2, 1) := by decide +kernel
theorem dX10_greatest_24 : decode cX10_greatest 24 = .ok (.invokestatic 303, 3) := by decide +kernel
theorem dX10_greatest_27 : decode cX10_greatest 27 = .ok (.ireturn, 1) := by decide +kernel
theorem dX10_greatestBound_0 : decode cX10_greatestBound 0 = .ok (.iload_n 0, 1) := by decide +kernel
theorem dX10_greatestBound_1 : decode cX10_greatestBound 1 = .ok (.ifCond .ne 11, 3) := by decide +kernel
theorem dX10_greatestBound_4 : decode cX10_greatestBound 4 = .ok (.iload_n 1, 1) := by decide +kernel
theorem dX10_greatestBound_5 : decode cX10_greatestBound 5 = .ok (.iconst 1, 1) := by decide +kernel
theorem dX10_greatestBound_6 : decode cX10_greatestBound 6 = .ok (.isub, 1) := by decide +kernel
theorem dX10_greatestBound_7 : decode cX10_greatestBound 7 = .ok (.iconst 3, 1) := by decide +kernel
theorem dX10_greatestBound_8 : decode cX10_greatestBound 8 = .ok (.idiv, 1) := by decide +kernel
theorem dX10_greatestBound_9 : decode cX10_greatestBound 9 = .ok (.goto 8, 3) := by decide +kernel
theorem dX10_greatestBound_12 : decode cX10_greatestBound 12 = .ok (.iload_n 1, 1) := by decide +kernel
theorem dX10_greatestBound_13 : decode cX10_greatestBound 13 = .ok (.iconst 1, 1) := by decide +kernel
theorem dX10_greatestBound_14 : decode cX10_greatestBound 14 = .ok (.isub, 1) := by decide +kernel
theorem dX10_greatestBound_15 : decode cX10_greatestBound 15 = .ok (.iconst 4, 1) := by decide +kernel
theorem dX10_greatestBound_16 : decode cX10_greatestBound 16 = .ok (.idiv, 1) := by decide +kernel
theorem dX10_greatestBound_17 : decode cX10_greatestBound 17 = .ok (.ireturn, 1) := by decide +kernel
theorem dX10_heard_0 : decode cX10_heard 0 = .ok (.aload_n 0, 1) := by decide +kernel
theorem dX10_heard_1 : decode cX10_heard 1 = .ok (.iload_n 3, 1) := by decide +kernel
theorem dX10_heard_2 : decode cX10_heard 2 = .ok (.invokevirtual 217, 3) := by decide +kernel
theorem dX10_heard_5 : decode cX10_heard 5 = .ok (.ifCond .eq 21, 3) := by decide +kernel
theorem dX10_heard_8 : decode cX10_heard 8 = .ok (.aload_n 0, 1) := by decide +kernel
theorem dX10_heard_9 : decode cX10_heard 9 = .ok (.iload 4, 2) := by decide +kernel
theorem dX10_heard_11 : decode cX10_heard 11 = .ok (.invokevirtual 217, 3) := by decide +kernel
theorem dX10_heard_14 : decode cX10_heard 14 = .ok (.ifCond .eq 12, 3) := by decide +kernel
theorem dX10_heard_17 : decode cX10_heard 17 = .ok (.aload_n 0, 1) := by decide +kernel
theorem dX10_heard_18 : decode cX10_heard 18 = .ok (.iload_n 1, 1) := by decide +kernel
theorem dX10_heard_19 : decode cX10_heard 19 = .ok (.iload_n 2, 1) := by decide +kernel
theorem dX10_heard_20 : decode cX10_heard 20 = .ok (.invokevirtual 221, 3) := by decide +kernel
theorem dX10_heard_23 : decode cX10_heard 23 = .ok (.ifCond .ne 5, 3) := by decide +kernel
theorem dX10_heard_26 : decode cX10_heard 26 = .ok (.iconst (-1), 1) := by decide +kernel
theorem dX10_heard_27 : decode cX10_heard 27 = .ok (.ireturn, 1) := by decide +kernel
theorem dX10_heard_28 : decode cX10_heard 28 = .ok (.iload_n 2, 1) := by decide +kernel
theorem dX10_heard_29 : decode cX10_heard 29 = .ok (.aload_n 0, 1) := by decide +kernel
theorem dX10_heard_30 : decode cX10_heard 30 = .ok (.getfield 23, 3) := by decide +kernel
theorem dX10_heard_33 : decode cX10_heard 33 = .ok (.invokevirtual 169, 3) := by decide +kernel
theorem dX10_heard_36 : decode cX10_heard 36 = .ok (.iconst 1, 1) := by decide +kernel
theorem dX10_heard_37 : decode cX10_heard 37 = .ok (.isub, 1) := by decide +kernel
theorem dX10_heard_38 : decode cX10_heard 38 = .ok (.if_icmp .ne 19, 3) := by decide +kernel
theorem dX10_heard_41 : decode cX10_heard 41 = .ok (.iload_n 3, 1) := by decide +kernel
theorem dX10_heard_42 : decode cX10_heard 42 = .ok (.aload_n 0, 1) := by decide +kernel
theorem dX10_heard_43 : decode cX10_heard 43 = .ok (.getfield 23, 3) := by decide +kernel
theorem dX10_heard_46 : decode cX10_heard 46 = .ok (.iload_n 1, 1) := by decide +kernel
theorem dX10_heard_47 : decode cX10_heard 47 = .ok (.invokevirtual 225, 3) := by decide +kernel
theorem dX10_heard_50 : decode cX10_heard 50 = .ok (.if_icmp .eq 7, 3) := by decide +kernel
theorem dX10_heard_53 : decode cX10_heard 53 = .ok (.iconst 1, 1) := by decide +kernel
theorem dX10_heard_54 : decode cX10_heard 54 = .ok (.goto 4, 3) := by decide +kernel
theorem dX10_heard_57 : decode cX10_heard 57 = .ok (.iconst 0, 1) := by decide +kernel
theorem dX10_heard_58 : decode cX10_heard 58 = .ok (.istore 5, 2) := by decide +kernel
theorem dX10_heard_60 : decode cX10_heard 60 = .ok (.iload 5, 2) := by decide +kernel
theorem dX10_heard_62 : decode cX10_heard 62 = .ok (.ifCond .ne 12, 3) := by decide +kernel
theorem dX10_heard_65 : decode cX10_heard 65 = .ok (.aload_n 0, 1) := by decide +kernel
theorem dX10_heard_66 : decode cX10_heard 66 = .ok (.iload_n 1, 1) := by decide +kernel
theorem dX10_heard_67 : decode cX10_heard 67 = .ok (.iload_n 2, 1) := by decide +kernel
theorem dX10_heard_68 : decode cX10_heard 68 = .ok (.invokevirtual 228, 3) := by decide +kernel
theorem dX10_heard_71 : decode cX10_heard 71 = .ok (.ifCond .ne 7, 3) := by decide +kernel
theorem dX10_heard_74 : decode cX10_heard 74 = .ok (.iconst (-1), 1) := by decide +kernel
theorem dX10_heard_75 : decode cX10_heard 75 = .ok (.goto 15, 3) := by decide +kernel
theorem dX10_heard_78 : decode cX10_heard 78 = .ok (.aload_n 0, 1) := by decide +kernel
theorem dX10_heard_79 : decode cX10_heard 79 = .ok (.getfield 60, 3) := by decide +kernel
theorem dX10_heard_82 : decode cX10_heard 82 = .ok (.iload_n 1, 1) := by decide +kernel
theorem dX10_heard_83 : decode cX10_heard 83 = .ok (.iload_n 2, 1) := by decide +kernel
theorem dX10_heard_84 : decode cX10_heard 84 = .ok (.iload_n 3, 1) := by decide +kernel
theorem dX10_heard_85 : decode cX10_heard 85 = .ok (.iload 4, 2) := by decide +kernel
theorem dX10_heard_87 : decode cX10_heard 87 = .ok (.invokevirtual 231, 3) := by decide +kernel
theorem dX10_heard_90 : decode cX10_heard 90 = .ok (.ireturn, 1) := by decide +kernel
theorem dX10_held_0 : decode cX10_held 0 = .ok (.aload_n 0, 1) := by decide +kernel
theorem dX10_held_1 : decode cX10_held 1 = .ok (.aload_n 0, 1) := by decide +kernel
theorem dX10_held_2 : decode cX10_held 2 = .ok (.getfield 60, 3) := by decide +kernel
theorem dX10_held_5 : decode cX10_held 5 = .ok (.getfield 155, 3) := by decide +kernel
theorem dX10_held_8 : decode cX10_held 8 = .ok (.invokevirtual 309, 3) := by decide +kernel
theorem dX10_held_11 : decode cX10_held 11 = .ok (.ifCond .ne 6, 3) := by decide +kernel
theorem dX10_held_14 : decode cX10_held 14 = .ok (.bipush (-2), 2) := by decide +kernel
theorem dX10_held_16 : decode cX10_held 16 = .ok (.ireturn, 1) := by decide +kernel
theorem dX10_held_17 : decode cX10_held 17 = .ok (.aload_n 0, 1) := by decide +kernel
theorem dX10_held_18 : decode cX10_held 18 = .ok (.iload_n 2, 1) := by decide +kernel
theorem dX10_held_19 : decode cX10_held 19 = .ok (.invokevirtual 217, 3) := by decide +kernel
theorem dX10_held_22 : decode cX10_held 22 = .ok (.ifCond .eq 24, 3) := by decide +kernel
theorem dX10_held_25 : decode cX10_held 25 = .ok (.iload_n 1, 1) := by decide +kernel
theorem dX10_held_26 : decode cX10_held 26 = .ok (.ifCond .lt 20, 3) := by decide +kernel
theorem dX10_held_29 : decode cX10_held 29 = .ok (.iload_n 1, 1) := by decide +kernel
theorem dX10_held_30 : decode cX10_held 30 = .ok (.iconst 1, 1) := by decide +kernel
theorem dX10_held_31 : decode cX10_held 31 = .ok (.aload_n 0, 1) := by decide +kernel
theorem dX10_held_32 : decode cX10_held 32 = .ok (.aload_n 0, 1) := by decide +kernel
theorem dX10_held_33 : decode cX10_held 33 = .ok (.getfield 60, 3) := by decide +kernel
theorem dX10_held_36 : decode cX10_held 36 = .ok (.getfield 155, 3) := by decide +kernel
theorem dX10_held_39 : decode cX10_held 39 = .ok (.invokevirtual 306, 3) := by decide +kernel
theorem dX10_held_42 : decode cX10_held 42 = .ok (.ishl, 1) := by decide +kernel
theorem dX10_held_43 : decode cX10_held 43 = .ok (.if_icmp .lt 5, 3) := by decide +kernel
theorem dX10_held_46 : decode cX10_held 46 = .ok (.iconst (-1), 1) := by decide +kernel
theorem dX10_held_47 : decode cX10_held 47 = .ok (.ireturn, 1) := by decide +kernel
theorem dX10_held_48 : decode cX10_held 48 = .ok (.aload_n 0, 1) := by decide +kernel
theorem dX10_held_49 : decode cX10_held 49 = .ok (.getfield 53, 3) := by decide +kernel
theorem dX10_held_52 : decode cX10_held 52 = .ok (.iload_n 1, 1) := by decide +kernel
theorem dX10_held_53 : decode cX10_held 53 = .ok (.putfield 341, 3) := by decide +kernel
theorem dX10_held_56 : decode cX10_held 56 = .ok (.aload_n 0, 1) := by decide +kernel
theorem dX10_held_57 : decode cX10_held 57 = .ok (.getfield 53, 3) := by decide +kernel
theorem dX10_held_60 : decode cX10_held 60 = .ok (.iconst 0, 1) := by decide +kernel
theorem dX10_held_61 : decode cX10_held 61 = .ok (.putfield 344, 3) := by decide +kernel
theorem dX10_held_64 : decode cX10_held 64 = .ok (.aload_n 0, 1) := by decide +kernel
theorem dX10_held_65 : decode cX10_held 65 = .ok (.aload_n 0, 1) := by decide +kernel
theorem dX10_held_66 : decode cX10_held 66 = .ok (.getfield 23, 3) := by decide +kernel
theorem dX10_held_69 : decode cX10_held 69 = .ok (.aload_n 0, 1) := by decide +kernel
theorem dX10_held_70 : decode cX10_held 70 = .ok (.getfield 53, 3) := by decide +kernel
theorem dX10_held_73 : decode cX10_held 73 = .ok (.aload_n 0, 1) := by decide +kernel
theorem dX10_held_74 : decode cX10_held 74 = .ok (.getfield 115, 3) := by decide +kernel
theorem dX10_held_77 : decode cX10_held 77 = .ok (.invokevirtual 347, 3) := by decide +kernel
theorem dX10_held_80 : decode cX10_held 80 = .ok (.aload_n 0, 1) := by decide +kernel
theorem dX10_held_81 : decode cX10_held 81 = .ok (.getfield 67, 3) := by decide +kernel
theorem dX10_held_84 : decode cX10_held 84 = .ok (.getfield 211, 3) := by decide +kernel
theorem dX10_held_87 : decode cX10_held 87 = .ok (.iload_n 2, 1) := by decide +kernel
theorem dX10_held_88 : decode cX10_held 88 = .ok (.invokestatic 235, 3) := by decide +kernel
theorem dX10_held_91 : decode cX10_held 91 = .ok (.ireturn, 1) := by decide +kernel
theorem dX10_image_0 : decode cX10_image 0 = .ok (.aload_n 0, 1) := by decide +kernel
theorem dX10_image_1 : decode cX10_image 1 = .ok (.getfield 108, 3) := by decide +kernel
theorem dX10_image_4 : decode cX10_image 4 = .ok (.ifCond .ne 5, 3) := by decide +kernel
theorem dX10_image_7 : decode cX10_image 7 = .ok (.iconst (-1), 1) := by decide +kernel
theorem dX10_image_8 : decode cX10_image 8 = .ok (.ireturn, 1) := by decide +kernel
theorem dX10_image_9 : decode cX10_image 9 = .ok (.aload_n 0, 1) := by decide +kernel
theorem dX10_image_10 : decode cX10_image 10 = .ok (.getfield 64, 3) := by decide +kernel
theorem dX10_image_13 : decode cX10_image 13 = .ok (.aload_n 0, 1) := by decide +kernel
theorem dX10_image_14 : decode cX10_image 14 = .ok (.getfield 60, 3) := by decide +kernel
theorem dX10_image_17 : decode cX10_image 17 = .ok (.invokevirtual 384, 3) := by decide +kernel
theorem dX10_image_20 : decode cX10_image 20 = .ok (.aload_n 0, 1) := by decide +kernel
theorem dX10_image_21 : decode cX10_image 21 = .ok (.iconst 1, 1) := by decide +kernel
theorem dX10_image_22 : decode cX10_image 22 = .ok (.putfield 112, 3) := by decide +kernel
theorem dX10_image_25 : decode cX10_image 25 = .ok (.aload_n 0, 1) := by decide +kernel
theorem dX10_image_26 : decode cX10_image 26 = .ok (.getfield 60, 3) := by decide +kernel
theorem dX10_image_29 : decode cX10_image 29 = .ok (.getfield 159, 3) := by decide +kernel
theorem dX10_image_32 : decode cX10_image 32 = .ok (.ireturn, 1) := by decide +kernel
theorem dX10_isAsked_0 : decode cX10_isAsked 0 = .ok (.aload_n 0, 1) := by decide +kernel
theorem dX10_isAsked_1 : decode cX10_isAsked 1 = .ok (.getfield 108, 3) := by decide +kernel
theorem dX10_isAsked_4 : decode cX10_isAsked 4 = .ok (.ifCond .eq 17, 3) := by decide +kernel
theorem dX10_isAsked_7 : decode cX10_isAsked 7 = .ok (.aload_n 0, 1) := by decide +kernel
theorem dX10_isAsked_8 : decode cX10_isAsked 8 = .ok (.iload_n 1, 1) := by decide +kernel
theorem dX10_isAsked_9 : decode cX10_isAsked 9 = .ok (.invokevirtual 306, 3) := by decide +kernel
theorem dX10_isAsked_12 : decode cX10_isAsked 12 = .ok (.bipush 12, 2) := by decide +kernel
theorem dX10_isAsked_14 : decode cX10_isAsked 14 = .ok (.if_icmp .gt 7, 3) := by decide +kernel
theorem dX10_isAsked_17 : decode cX10_isAsked 17 = .ok (.iconst 1, 1) := by decide +kernel
theorem dX10_isAsked_18 : decode cX10_isAsked 18 = .ok (.goto 4, 3) := by decide +kernel
theorem dX10_isAsked_21 : decode cX10_isAsked 21 = .ok (.iconst 0, 1) := by decide +kernel
theorem dX10_isAsked_22 : decode cX10_isAsked 22 = .ok (.ireturn, 1) := by decide +kernel
theorem dX10_isOver_0 : decode cX10_isOver 0 = .ok (.iload_n 1, 1) := by decide +kernel
theorem dX10_isOver_1 : decode cX10_isOver 1 = .ok (.ifCond .lt 15, 3) := by decide +kernel
theorem dX10_isOver_4 : decode cX10_isOver 4 = .ok (.iload_n 1, 1) := by decide +kernel
theorem dX10_isOver_5 : decode cX10_isOver 5 = .ok (.aload_n 0, 1) := by decide +kernel
theorem dX10_isOver_6 : decode cX10_isOver 6 = .ok (.invokevirtual 273, 3) := by decide +kernel
theorem dX10_isOver_9 : decode cX10_isOver 9 = .ok (.if_icmp .ge 7, 3) := by decide +kernel
theorem dX10_isOver_12 : decode cX10_isOver 12 = .ok (.iconst 1, 1) := by decide +kernel
theorem dX10_isOver_13 : decode cX10_isOver 13 = .ok (.goto 4, 3) := by decide +kernel
theorem dX10_isOver_16 : decode cX10_isOver 16 = .ok (.iconst 0, 1) := by decide +kernel
theorem dX10_isOver_17 : decode cX10_isOver 17 = .ok (.ireturn, 1) := by decide +kernel
theorem dX10_isPeer_0 : decode cX10_isPeer 0 = .ok (.aload_n 0, 1) := by decide +kernel
theorem dX10_isPeer_1 : decode cX10_isPeer 1 = .ok (.getfield 108, 3) := by decide +kernel
theorem dX10_isPeer_4 : decode cX10_isPeer 4 = .ok (.ifCond .eq 22, 3) := by decide +kernel
theorem dX10_isPeer_7 : decode cX10_isPeer 7 = .ok (.iload_n 1, 1) := by decide +kernel
theorem dX10_isPeer_8 : decode cX10_isPeer 8 = .ok (.ifCond .lt 18, 3) := by decide +kernel
theorem dX10_isPeer_11 : decode cX10_isPeer 11 = .ok (.iload_n 1, 1) := by decide +kernel
theorem dX10_isPeer_12 : decode cX10_isPeer 12 = .ok (.aload_n 0, 1) := by decide +kernel
theorem dX10_isPeer_13 : decode cX10_isPeer 13 = .ok (.getfield 23, 3) := by decide +kernel
theorem dX10_isPeer_16 : decode cX10_isPeer 16 = .ok (.getfield 132, 3) := by decide +kernel
theorem dX10_isPeer_19 : decode cX10_isPeer 19 = .ok (.if_icmp .ge 7, 3) := by decide +kernel
theorem dX10_isPeer_22 : decode cX10_isPeer 22 = .ok (.iconst 1, 1) := by decide +kernel
theorem dX10_isPeer_23 : decode cX10_isPeer 23 = .ok (.goto 4, 3) := by decide +kernel
theorem dX10_isPeer_26 : decode cX10_isPeer 26 = .ok (.iconst 0, 1) := by decide +kernel
theorem dX10_isPeer_27 : decode cX10_isPeer 27 = .ok (.ireturn, 1) := by decide +kernel
theorem dX10_letters_0 : decode cX10_letters 0 = .ok (.aload_n 0, 1) := by decide +kernel
theorem dX10_letters_1 : decode cX10_letters 1 = .ok (.getfield 108, 3) := by decide +kernel
theorem dX10_letters_4 : decode cX10_letters 4 = .ok (.ifCond .ne 5, 3) := by decide +kernel
theorem dX10_letters_7 : decode cX10_letters 7 = .ok (.iconst (-1), 1) := by decide +kernel
theorem dX10_letters_8 : decode cX10_letters 8 = .ok (.ireturn, 1) := by decide +kernel
theorem dX10_letters_9 : decode cX10_letters 9 = .ok (.aload_n 0, 1) := by decide +kernel
theorem dX10_letters_10 : decode cX10_letters 10 = .ok (.invokevirtual 273, 3) := by decide +kernel
theorem dX10_letters_13 : decode cX10_letters 13 = .ok (.istore_n 2, 1) := by decide +kernel
theorem dX10_letters_14 : decode cX10_letters 14 = .ok (.iload_n 1, 1) := by decide +kernel
theorem dX10_letters_15 : decode cX10_letters 15 = .ok (.tableswitch 73 0 3 #[29, 37, 45, 53], 29) := by decide +kernel
theorem dX10_letters_44 : decode cX10_letters 44 = .ok (.aload_n 0, 1) := by decide +kernel
theorem dX10_letters_45 : decode cX10_letters 45 = .ok (.getfield 60, 3) := by decide +kernel
theorem dX10_letters_48 : decode cX10_letters 48 = .ok (.getfield 291, 3) := by decide +kernel
theorem dX10_letters_51 : decode cX10_letters 51 = .ok (.ireturn, 1) := by decide +kernel
theorem dX10_letters_52 : decode cX10_letters 52 = .ok (.aload_n 0, 1) := by decide +kernel
theorem dX10_letters_53 : decode cX10_letters 53 = .ok (.getfield 60, 3) := by decide +kernel
theorem dX10_letters_56 : decode cX10_letters 56 = .ok (.getfield 294, 3) := by decide +kernel
theorem dX10_letters_59 : decode cX10_letters 59 = .ok (.ireturn, 1) := by decide +kernel
theorem dX10_letters_60 : decode cX10_letters 60 = .ok (.aload_n 0, 1) := by decide +kernel
theorem dX10_letters_61 : decode cX10_letters 61 = .ok (.getfield 23, 3) := by decide +kernel
theorem dX10_letters_64 : decode cX10_letters 64 = .ok (.invokevirtual 297, 3) := by decide +kernel
theorem dX10_letters_67 : decode cX10_letters 67 = .ok (.ireturn, 1) := by decide +kernel
theorem dX10_letters_68 : decode cX10_letters 68 = .ok (.iload_n 2, 1) := by decide +kernel
theorem dX10_letters_69 : decode cX10_letters 69 = .ok (.ifCond .le 17, 3) := by decide +kernel
theorem dX10_letters_72 : decode cX10_letters 72 = .ok (.aload_n 0, 1) := by decide +kernel
theorem dX10_letters_73 : decode cX10_letters 73 = .ok (.getfield 60, 3) := by decide +kernel
theorem dX10_letters_76 : decode cX10_letters 76 = .ok (.getfield 300, 3) := by decide +kernel
theorem dX10_letters_79 : decode cX10_letters 79 = .ok (.iload_n 2, 1) := by decide +kernel
theorem dX10_letters_80 : decode cX10_letters 80 = .ok (.iconst 1, 1) := by decide +kernel
theorem dX10_letters_81 : decode cX10_letters 81 = .ok (.isub, 1) := by decide +kernel
theorem dX10_letters_82 : decode cX10_letters 82 = .ok (.iaload, 1) := by decide +kernel
theorem dX10_letters_83 : decode cX10_letters 83 = .ok (.goto 4, 3) := by decide +kernel
theorem dX10_letters_86 : decode cX10_letters 86 = .ok (.iconst 0, 1) := by decide +kernel
theorem dX10_letters_87 : decode cX10_letters 87 = .ok (.ireturn, 1) := by decide +kernel
theorem dX10_letters_88 : decode cX10_letters 88 = .ok (.iconst (-1), 1) := by decide +kernel
theorem dX10_letters_89 : decode cX10_letters 89 = .ok (.ireturn, 1) := by decide +kernel
theorem dX10_most_0 : decode cX10_most 0 = .ok (.aload_n 0, 1) := by decide +kernel
theorem dX10_most_1 : decode cX10_most 1 = .ok (.getfield 108, 3) := by decide +kernel
theorem dX10_most_4 : decode cX10_most 4 = .ok (.ifCond .ne 5, 3) := by decide +kernel
theorem dX10_most_7 : decode cX10_most 7 = .ok (.iconst (-1), 1) := by decide +kernel
theorem dX10_most_8 : decode cX10_most 8 = .ok (.ireturn, 1) := by decide +kernel
theorem dX10_most_9 : decode cX10_most 9 = .ok (.iload_n 1, 1) := by decide +kernel
theorem dX10_most_10 : decode cX10_most 10 = .ok (.tableswitch 59 0 4 #[34, 39, 44, 49, 54], 34) := by decide +kernel
theorem dX10_most_44 : decode cX10_most 44 = .ok (.aload_n 0, 1) := by decide +kernel
theorem dX10_most_45 : decode cX10_most 45 = .ok (.invokevirtual 386, 3) := by decide +kernel
theorem dX10_most_48 : decode cX10_most 48 = .ok (.ireturn, 1) := by decide +kernel
theorem dX10_most_49 : decode cX10_most 49 = .ok (.aload_n 0, 1) := by decide +kernel
theorem dX10_most_50 : decode cX10_most 50 = .ok (.invokevirtual 389, 3) := by decide +kernel
theorem dX10_most_53 : decode cX10_most 53 = .ok (.ireturn, 1) := by decide +kernel
theorem dX10_most_54 : decode cX10_most 54 = .ok (.aload_n 0, 1) := by decide +kernel
theorem dX10_most_55 : decode cX10_most 55 = .ok (.invokevirtual 392, 3) := by decide +kernel
theorem dX10_most_58 : decode cX10_most 58 = .ok (.ireturn, 1) := by decide +kernel
theorem dX10_most_59 : decode cX10_most 59 = .ok (.aload_n 0, 1) := by decide +kernel
theorem dX10_most_60 : decode cX10_most 60 = .ok (.invokevirtual 395, 3) := by decide +kernel
theorem dX10_most_63 : decode cX10_most 63 = .ok (.ireturn, 1) := by decide +kernel
theorem dX10_most_64 : decode cX10_most 64 = .ok (.aload_n 0, 1) := by decide +kernel
theorem dX10_most_65 : decode cX10_most 65 = .ok (.invokevirtual 398, 3) := by decide +kernel
theorem dX10_most_68 : decode cX10_most 68 = .ok (.ireturn, 1) := by decide +kernel
theorem dX10_most_69 : decode cX10_most 69 = .ok (.iconst (-1), 1) := by decide +kernel
theorem dX10_most_70 : decode cX10_most 70 = .ok (.ireturn, 1) := by decide +kernel
theorem dX10_needed_0 : decode cX10_needed 0 = .ok (.iconst 1, 1) := by decide +kernel
theorem dX10_needed_1 : decode cX10_needed 1 = .ok (.istore_n 1, 1) := by decide +kernel
theorem dX10_needed_2 : decode cX10_needed 2 = .ok (.aload_n 0, 1) := by decide +kernel
theorem dX10_needed_3 : decode cX10_needed 3 = .ok (.getfield 108, 3) := by decide +kernel
theorem dX10_needed_6 : decode cX10_needed 6 = .ok (.ifCond .eq 75, 3) := by decide +kernel
theorem dX10_needed_9 : decode cX10_needed 9 = .ok (.iload_n 1, 1) := by decide +kernel
theorem dX10_needed_10 : decode cX10_needed 10 = .ok (.bipush 6, 2) := by decide +kernel
theorem dX10_needed_12 : decode cX10_needed 12 = .ok (.if_icmp .gt 69, 3) := by decide +kernel
theorem dX10_needed_15 : decode cX10_needed 15 = .ok (.aload_n 0, 1) := by decide +kernel
theorem dX10_needed_16 : decode cX10_needed 16 = .ok (.getfield 23, 3) := by decide +kernel
theorem dX10_needed_19 : decode cX10_needed 19 = .ok (.aload_n 0, 1) := by decide +kernel
theorem dX10_needed_20 : decode cX10_needed 20 = .ok (.getfield 60, 3) := by decide +kernel
theorem dX10_needed_23 : decode cX10_needed 23 = .ok (.getfield 155, 3) := by decide +kernel
theorem dX10_needed_26 : decode cX10_needed 26 = .ok (.iload_n 1, 1) := by decide +kernel
theorem dX10_needed_27 : decode cX10_needed 27 = .ok (.invokevirtual 351, 3) := by decide +kernel
theorem dX10_needed_30 : decode cX10_needed 30 = .ok (.bipush 12, 2) := by decide +kernel
theorem dX10_needed_32 : decode cX10_needed 32 = .ok (.if_icmp .le 5, 3) := by decide +kernel
theorem dX10_needed_35 : decode cX10_needed 35 = .ok (.iconst (-1), 1) := by decide +kernel
theorem dX10_needed_36 : decode cX10_needed 36 = .ok (.ireturn, 1) := by decide +kernel
theorem dX10_needed_37 : decode cX10_needed 37 = .ok (.aload_n 0, 1) := by decide +kernel
theorem dX10_needed_38 : decode cX10_needed 38 = .ok (.getfield 80, 3) := by decide +kernel
theorem dX10_needed_41 : decode cX10_needed 41 = .ok (.aload_n 0, 1) := by decide +kernel
theorem dX10_needed_42 : decode cX10_needed 42 = .ok (.getfield 23, 3) := by decide +kernel
theorem dX10_needed_45 : decode cX10_needed 45 = .ok (.aload_n 0, 1) := by decide +kernel
theorem dX10_needed_46 : decode cX10_needed 46 = .ok (.getfield 60, 3) := by decide +kernel
theorem dX10_needed_49 : decode cX10_needed 49 = .ok (.getfield 155, 3) := by decide +kernel
theorem dX10_needed_52 : decode cX10_needed 52 = .ok (.iload_n 1, 1) := by decide +kernel
theorem dX10_needed_53 : decode cX10_needed 53 = .ok (.invokevirtual 312, 3) := by decide +kernel
theorem dX10_needed_56 : decode cX10_needed 56 = .ok (.aload_n 0, 1) := by decide +kernel
theorem dX10_needed_57 : decode cX10_needed 57 = .ok (.getfield 80, 3) := by decide +kernel
theorem dX10_needed_60 : decode cX10_needed 60 = .ok (.aload_n 0, 1) := by decide +kernel
theorem dX10_needed_61 : decode cX10_needed 61 = .ok (.getfield 60, 3) := by decide +kernel
theorem dX10_needed_64 : decode cX10_needed 64 = .ok (.getfield 154, 3) := by decide +kernel
theorem dX10_needed_67 : decode cX10_needed 67 = .ok (.invokevirtual 335, 3) := by decide +kernel
theorem dX10_needed_70 : decode cX10_needed 70 = .ok (.ifCond .ne 5, 3) := by decide +kernel
theorem dX10_needed_73 : decode cX10_needed 73 = .ok (.iload_n 1, 1) := by decide +kernel
theorem dX10_needed_74 : decode cX10_needed 74 = .ok (.ireturn, 1) := by decide +kernel
theorem dX10_needed_75 : decode cX10_needed 75 = .ok (.iinc 1 1, 3) := by decide +kernel
theorem dX10_needed_78 : decode cX10_needed 78 = .ok (.goto (-76), 3) := by decide +kernel
theorem dX10_needed_81 : decode cX10_needed 81 = .ok (.iconst (-1), 1) := by decide +kernel
theorem dX10_needed_82 : decode cX10_needed 82 = .ok (.ireturn, 1) := by decide +kernel
theorem dX10_peer_0 : decode cX10_peer 0 = .ok (.aload_n 0, 1) := by decide +kernel
theorem dX10_peer_1 : decode cX10_peer 1 = .ok (.iload_n 1, 1) := by decide +kernel
theorem dX10_peer_2 : decode cX10_peer 2 = .ok (.invokevirtual 217, 3) := by decide +kernel
theorem dX10_peer_5 : decode cX10_peer 5 = .ok (.ifCond .ne 5, 3) := by decide +kernel
theorem dX10_peer_8 : decode cX10_peer 8 = .ok (.iconst (-1), 1) := by decide +kernel
theorem dX10_peer_9 : decode cX10_peer 9 = .ok (.ireturn, 1) := by decide +kernel
theorem dX10_peer_10 : decode cX10_peer 10 = .ok (.iload_n 2, 1) := by decide +kernel
theorem dX10_peer_11 : decode cX10_peer 11 = .ok (.tableswitch 74 0 3 #[29, 41, 50, 62], 29) := by decide +kernel
theorem dX10_peer_40 : decode cX10_peer 40 = .ok (.aload_n 0, 1) := by decide +kernel
theorem dX10_peer_41 : decode cX10_peer 41 = .ok (.getfield 60, 3) := by decide +kernel
theorem dX10_peer_44 : decode cX10_peer 44 = .ok (.getfield 211, 3) := by decide +kernel
theorem dX10_peer_47 : decode cX10_peer 47 = .ok (.iload_n 1, 1) := by decide +kernel
theorem dX10_peer_48 : decode cX10_peer 48 = .ok (.invokestatic 235, 3) := by decide +kernel
theorem dX10_peer_51 : decode cX10_peer 51 = .ok (.ireturn, 1) := by decide +kernel
theorem dX10_peer_52 : decode cX10_peer 52 = .ok (.aload_n 0, 1) := by decide +kernel
theorem dX10_peer_53 : decode cX10_peer 53 = .ok (.getfield 60, 3) := by decide +kernel
theorem dX10_peer_56 : decode cX10_peer 56 = .ok (.iload_n 1, 1) := by decide +kernel
theorem dX10_peer_57 : decode cX10_peer 57 = .ok (.invokevirtual 238, 3) := by decide +kernel
theorem dX10_peer_60 : decode cX10_peer 60 = .ok (.ireturn, 1) := by decide +kernel
theorem dX10_peer_61 : decode cX10_peer 61 = .ok (.aload_n 0, 1) := by decide +kernel
theorem dX10_peer_62 : decode cX10_peer 62 = .ok (.getfield 60, 3) := by decide +kernel
theorem dX10_peer_65 : decode cX10_peer 65 = .ok (.getfield 155, 3) := by decide +kernel
theorem dX10_peer_68 : decode cX10_peer 68 = .ok (.iload_n 1, 1) := by decide +kernel
theorem dX10_peer_69 : decode cX10_peer 69 = .ok (.invokestatic 235, 3) := by decide +kernel
theorem dX10_peer_72 : decode cX10_peer 72 = .ok (.ireturn, 1) := by decide +kernel
theorem dX10_peer_73 : decode cX10_peer 73 = .ok (.aload_n 0, 1) := by decide +kernel
theorem dX10_peer_74 : decode cX10_peer 74 = .ok (.getfield 60, 3) := by decide +kernel
theorem dX10_peer_77 : decode cX10_peer 77 = .ok (.getfield 154, 3) := by decide +kernel
theorem dX10_peer_80 : decode cX10_peer 80 = .ok (.iload_n 1, 1) := by decide +kernel
theorem dX10_peer_81 : decode cX10_peer 81 = .ok (.invokestatic 235, 3) := by decide +kernel
theorem dX10_peer_84 : decode cX10_peer 84 = .ok (.ireturn, 1) := by decide +kernel
theorem dX10_peer_85 : decode cX10_peer 85 = .ok (.iconst (-1), 1) := by decide +kernel
theorem dX10_peer_86 : decode cX10_peer 86 = .ok (.ireturn, 1) := by decide +kernel
theorem dX10_phasesOver_0 : decode cX10_phasesOver 0 = .ok (.aload_n 0, 1) := by decide +kernel
theorem dX10_phasesOver_1 : decode cX10_phasesOver 1 = .ok (.getfield 108, 3) := by decide +kernel
theorem dX10_phasesOver_4 : decode cX10_phasesOver 4 = .ok (.ifCond .eq 25, 3) := by decide +kernel
theorem dX10_phasesOver_7 : decode cX10_phasesOver 7 = .ok (.aload_n 0, 1) := by decide +kernel
theorem dX10_phasesOver_8 : decode cX10_phasesOver 8 = .ok (.getfield 23, 3) := by decide +kernel
theorem dX10_phasesOver_11 : decode cX10_phasesOver 11 = .ok (.aload_n 0, 1) := by decide +kernel
theorem dX10_phasesOver_12 : decode cX10_phasesOver 12 = .ok (.getfield 60, 3) := by decide +kernel
theorem dX10_phasesOver_15 : decode cX10_phasesOver 15 = .ok (.getfield 159, 3) := by decide +kernel
theorem dX10_phasesOver_18 : decode cX10_phasesOver 18 = .ok (.invokevirtual 162, 3) := by decide +kernel
theorem dX10_phasesOver_21 : decode cX10_phasesOver 21 = .ok (.bipush 6, 2) := by decide +kernel
theorem dX10_phasesOver_23 : decode cX10_phasesOver 23 = .ok (.invokestatic 401, 3) := by decide +kernel
theorem dX10_phasesOver_26 : decode cX10_phasesOver 26 = .ok (.goto 4, 3) := by decide +kernel
theorem dX10_phasesOver_29 : decode cX10_phasesOver 29 = .ok (.iconst 0, 1) := by decide +kernel
theorem dX10_phasesOver_30 : decode cX10_phasesOver 30 = .ok (.ireturn, 1) := by decide +kernel
theorem dX10_plan_0 : decode cX10_plan 0 = .ok (.aload_n 0, 1) := by decide +kernel
theorem dX10_plan_1 : decode cX10_plan 1 = .ok (.getfield 32, 3) := by decide +kernel
theorem dX10_plan_4 : decode cX10_plan 4 = .ok (.aload_n 0, 1) := by decide +kernel
theorem dX10_plan_5 : decode cX10_plan 5 = .ok (.getfield 10, 3) := by decide +kernel
theorem dX10_plan_8 : decode cX10_plan 8 = .ok (.invokevirtual 103, 3) := by decide +kernel
theorem dX10_plan_11 : decode cX10_plan 11 = .ok (.iconst (-1), 1) := by decide +kernel
theorem dX10_plan_12 : decode cX10_plan 12 = .ok (.if_icmp .eq 5, 3) := by decide +kernel
theorem dX10_plan_15 : decode cX10_plan 15 = .ok (.iconst (-1), 1) := by decide +kernel
theorem dX10_plan_16 : decode cX10_plan 16 = .ok (.ireturn, 1) := by decide +kernel
theorem dX10_plan_17 : decode cX10_plan 17 = .ok (.aload_n 0, 1) := by decide +kernel
theorem dX10_plan_18 : decode cX10_plan 18 = .ok (.getfield 10, 3) := by decide +kernel
theorem dX10_plan_21 : decode cX10_plan 21 = .ok (.iconst 0, 1) := by decide +kernel
theorem dX10_plan_22 : decode cX10_plan 22 = .ok (.putfield 91, 3) := by decide +kernel
theorem dX10_plan_25 : decode cX10_plan 25 = .ok (.aload_n 0, 1) := by decide +kernel
theorem dX10_plan_26 : decode cX10_plan 26 = .ok (.getfield 39, 3) := by decide +kernel
theorem dX10_plan_29 : decode cX10_plan 29 = .ok (.getfield 135, 3) := by decide +kernel
theorem dX10_plan_32 : decode cX10_plan 32 = .ok (.aload_n 0, 1) := by decide +kernel
theorem dX10_plan_33 : decode cX10_plan 33 = .ok (.getfield 32, 3) := by decide +kernel
theorem dX10_plan_36 : decode cX10_plan 36 = .ok (.invokevirtual 138, 3) := by decide +kernel
theorem dX10_plan_39 : decode cX10_plan 39 = .ok (.aload_n 0, 1) := by decide +kernel
theorem dX10_plan_40 : decode cX10_plan 40 = .ok (.getfield 39, 3) := by decide +kernel
theorem dX10_plan_43 : decode cX10_plan 43 = .ok (.getfield 135, 3) := by decide +kernel
theorem dX10_plan_46 : decode cX10_plan 46 = .ok (.getfield 141, 3) := by decide +kernel
theorem dX10_plan_49 : decode cX10_plan 49 = .ok (.ireturn, 1) := by decide +kernel
theorem dX10_refuse_0 : decode cX10_refuse 0 = .ok (.aload_n 0, 1) := by decide +kernel
theorem dX10_refuse_1 : decode cX10_refuse 1 = .ok (.getfield 87, 3) := by decide +kernel
theorem dX10_refuse_4 : decode cX10_refuse 4 = .ok (.iload_n 1, 1) := by decide +kernel
theorem dX10_refuse_5 : decode cX10_refuse 5 = .ok (.dup2, 1) := by decide +kernel
theorem dX10_refuse_6 : decode cX10_refuse 6 = .ok (.iaload, 1) := by decide +kernel
theorem dX10_refuse_7 : decode cX10_refuse 7 = .ok (.iconst 1, 1) := by decide +kernel
theorem dX10_refuse_8 : decode cX10_refuse 8 = .ok (.iadd, 1) := by decide +kernel
theorem dX10_refuse_9 : decode cX10_refuse 9 = .ok (.iastore, 1) := by decide +kernel
theorem dX10_refuse_10 : decode cX10_refuse 10 = .ok (.iconst (-1), 1) := by decide +kernel
theorem dX10_refuse_11 : decode cX10_refuse 11 = .ok (.ireturn, 1) := by decide +kernel
theorem dX10_round_0 : decode cX10_round 0 = .ok (.aload_n 0, 1) := by decide +kernel
theorem dX10_round_1 : decode cX10_round 1 = .ok (.invokevirtual 183, 3) := by decide +kernel
theorem dX10_round_4 : decode cX10_round 4 = .ok (.iconst 1, 1) := by decide +kernel
theorem dX10_round_5 : decode cX10_round 5 = .ok (.if_icmp .ge 5, 3) := by decide +kernel
theorem dX10_round_8 : decode cX10_round 8 = .ok (.iconst (-1), 1) := by decide +kernel
theorem dX10_round_9 : decode cX10_round 9 = .ok (.ireturn, 1) := by decide +kernel
theorem dX10_round_10 : decode cX10_round 10 = .ok (.aload_n 0, 1) := by decide +kernel
theorem dX10_round_11 : decode cX10_round 11 = .ok (.getfield 73, 3) := by decide +kernel
theorem dX10_round_14 : decode cX10_round 14 = .ok (.aload_n 0, 1) := by decide +kernel
theorem dX10_round_15 : decode cX10_round 15 = .ok (.getfield 60, 3) := by decide +kernel
theorem dX10_round_18 : decode cX10_round 18 = .ok (.invokevirtual 186, 3) := by decide +kernel
theorem dX10_round_21 : decode cX10_round 21 = .ok (.aload_n 0, 1) := by decide +kernel
theorem dX10_round_22 : decode cX10_round 22 = .ok (.getfield 60, 3) := by decide +kernel
theorem dX10_round_25 : decode cX10_round 25 = .ok (.aload_n 0, 1) := by decide +kernel
theorem dX10_round_26 : decode cX10_round 26 = .ok (.getfield 23, 3) := by decide +kernel
theorem dX10_round_29 : decode cX10_round 29 = .ok (.aload_n 0, 1) := by decide +kernel
theorem dX10_round_30 : decode cX10_round 30 = .ok (.getfield 39, 3) := by decide +kernel
theorem dX10_round_33 : decode cX10_round 33 = .ok (.invokevirtual 190, 3) := by decide +kernel
theorem dX10_round_36 : decode cX10_round 36 = .ok (.aload_n 0, 1) := by decide +kernel
theorem dX10_round_37 : decode cX10_round 37 = .ok (.getfield 60, 3) := by decide +kernel
theorem dX10_round_40 : decode cX10_round 40 = .ok (.getfield 159, 3) := by decide +kernel
theorem dX10_round_43 : decode cX10_round 43 = .ok (.ireturn, 1) := by decide +kernel
theorem dX10_roundsLeft_0 : decode cX10_roundsLeft 0 = .ok (.aload_n 0, 1) := by decide +kernel
theorem dX10_roundsLeft_1 : decode cX10_roundsLeft 1 = .ok (.getfield 108, 3) := by decide +kernel
theorem dX10_roundsLeft_4 : decode cX10_roundsLeft 4 = .ok (.ifCond .eq 21, 3) := by decide +kernel
theorem dX10_roundsLeft_7 : decode cX10_roundsLeft 7 = .ok (.aload_n 0, 1) := by decide +kernel
theorem dX10_roundsLeft_8 : decode cX10_roundsLeft 8 = .ok (.getfield 23, 3) := by decide +kernel
theorem dX10_roundsLeft_11 : decode cX10_roundsLeft 11 = .ok (.invokevirtual 406, 3) := by decide +kernel
theorem dX10_roundsLeft_14 : decode cX10_roundsLeft 14 = .ok (.aload_n 0, 1) := by decide +kernel
theorem dX10_roundsLeft_15 : decode cX10_roundsLeft 15 = .ok (.getfield 60, 3) := by decide +kernel
theorem dX10_roundsLeft_18 : decode cX10_roundsLeft 18 = .ok (.getfield 159, 3) := by decide +kernel
theorem dX10_roundsLeft_21 : decode cX10_roundsLeft 21 = .ok (.isub, 1) := by decide +kernel
theorem dX10_roundsLeft_22 : decode cX10_roundsLeft 22 = .ok (.goto 4, 3) := by decide +kernel
theorem dX10_roundsLeft_25 : decode cX10_roundsLeft 25 = .ok (.iconst 0, 1) := by decide +kernel
theorem dX10_roundsLeft_26 : decode cX10_roundsLeft 26 = .ok (.ireturn, 1) := by decide +kernel
theorem dX10_rule_0 : decode cX10_rule 0 = .ok (.iload_n 1, 1) := by decide +kernel
theorem dX10_rule_1 : decode cX10_rule 1 = .ok (.bipush 10, 2) := by decide +kernel
theorem dX10_rule_3 : decode cX10_rule 3 = .ok (.if_icmp .ne 14, 3) := by decide +kernel
theorem dX10_rule_6 : decode cX10_rule 6 = .ok (.aload_n 0, 1) := by decide +kernel
theorem dX10_rule_7 : decode cX10_rule 7 = .ok (.getfield 39, 3) := by decide +kernel
theorem dX10_rule_10 : decode cX10_rule 10 = .ok (.getfield 135, 3) := by decide +kernel
theorem dX10_rule_13 : decode cX10_rule 13 = .ok (.getfield 141, 3) := by decide +kernel
theorem dX10_rule_16 : decode cX10_rule 16 = .ok (.ireturn, 1) := by decide +kernel
theorem dX10_rule_17 : decode cX10_rule 17 = .ok (.aload_n 0, 1) := by decide +kernel
theorem dX10_rule_18 : decode cX10_rule 18 = .ok (.getfield 108, 3) := by decide +kernel
theorem dX10_rule_21 : decode cX10_rule 21 = .ok (.ifCond .ne 6, 3) := by decide +kernel
theorem dX10_rule_24 : decode cX10_rule 24 = .ok (.ldc 144, 2) := by decide +kernel
theorem dX10_rule_26 : decode cX10_rule 26 = .ok (.ireturn, 1) := by decide +kernel
theorem dX10_rule_27 : decode cX10_rule 27 = .ok (.iload_n 1, 1) := by decide +kernel
theorem dX10_rule_28 : decode cX10_rule 28 = .ok (.tableswitch 174 0 11 #[64, 72, 80, 88, 96, 104, 112, 128, 143, 158, 174, 166], 64) := by decide +kernel
theorem dX10_rule_92 : decode cX10_rule 92 = .ok (.aload_n 0, 1) := by decide +kernel
theorem dX10_rule_93 : decode cX10_rule 93 = .ok (.getfield 23, 3) := by decide +kernel
theorem dX10_rule_96 : decode cX10_rule 96 = .ok (.getfield 145, 3) := by decide +kernel
theorem dX10_rule_99 : decode cX10_rule 99 = .ok (.ireturn, 1) := by decide +kernel
theorem dX10_rule_100 : decode cX10_rule 100 = .ok (.aload_n 0, 1) := by decide +kernel
theorem dX10_rule_101 : decode cX10_rule 101 = .ok (.getfield 23, 3) := by decide +kernel
theorem dX10_rule_104 : decode cX10_rule 104 = .ok (.getfield 132, 3) := by decide +kernel
theorem dX10_rule_107 : decode cX10_rule 107 = .ok (.ireturn, 1) := by decide +kernel
theorem dX10_rule_108 : decode cX10_rule 108 = .ok (.aload_n 0, 1) := by decide +kernel
theorem dX10_rule_109 : decode cX10_rule 109 = .ok (.getfield 23, 3) := by decide +kernel
theorem dX10_rule_112 : decode cX10_rule 112 = .ok (.getfield 148, 3) := by decide +kernel
theorem dX10_rule_115 : decode cX10_rule 115 = .ok (.ireturn, 1) := by decide +kernel
theorem dX10_rule_116 : decode cX10_rule 116 = .ok (.aload_n 0, 1) := by decide +kernel
theorem dX10_rule_117 : decode cX10_rule 117 = .ok (.getfield 23, 3) := by decide +kernel
theorem dX10_rule_120 : decode cX10_rule 120 = .ok (.getfield 151, 3) := by decide +kernel
theorem dX10_rule_123 : decode cX10_rule 123 = .ok (.ireturn, 1) := by decide +kernel
theorem dX10_rule_124 : decode cX10_rule 124 = .ok (.aload_n 0, 1) := by decide +kernel
theorem dX10_rule_125 : decode cX10_rule 125 = .ok (.getfield 60, 3) := by decide +kernel
theorem dX10_rule_128 : decode cX10_rule 128 = .ok (.getfield 154, 3) := by decide +kernel
theorem dX10_rule_131 : decode cX10_rule 131 = .ok (.ireturn, 1) := by decide +kernel
theorem dX10_rule_132 : decode cX10_rule 132 = .ok (.aload_n 0, 1) := by decide +kernel
theorem dX10_rule_133 : decode cX10_rule 133 = .ok (.getfield 60, 3) := by decide +kernel
theorem dX10_rule_136 : decode cX10_rule 136 = .ok (.getfield 155, 3) := by decide +kernel
theorem dX10_rule_139 : decode cX10_rule 139 = .ok (.ireturn, 1) := by decide +kernel
theorem dX10_rule_140 : decode cX10_rule 140 = .ok (.aload_n 0, 1) := by decide +kernel
theorem dX10_rule_141 : decode cX10_rule 141 = .ok (.getfield 23, 3) := by decide +kernel
theorem dX10_rule_144 : decode cX10_rule 144 = .ok (.getfield 156, 3) := by decide +kernel
theorem dX10_rule_147 : decode cX10_rule 147 = .ok (.ifCond .eq 7, 3) := by decide +kernel
theorem dX10_rule_150 : decode cX10_rule 150 = .ok (.iconst 1, 1) := by decide +kernel
theorem dX10_rule_151 : decode cX10_rule 151 = .ok (.goto 4, 3) := by decide +kernel
theorem dX10_rule_154 : decode cX10_rule 154 = .ok (.iconst 0, 1) := by decide +kernel
theorem dX10_rule_155 : decode cX10_rule 155 = .ok (.ireturn, 1) := by decide +kernel
theorem dX10_rule_156 : decode cX10_rule 156 = .ok (.aload_n 0, 1) := by decide +kernel
theorem dX10_rule_157 : decode cX10_rule 157 = .ok (.getfield 23, 3) := by decide +kernel
theorem dX10_rule_160 : decode cX10_rule 160 = .ok (.aload_n 0, 1) := by decide +kernel
theorem dX10_rule_161 : decode cX10_rule 161 = .ok (.getfield 60, 3) := by decide +kernel
theorem dX10_rule_164 : decode cX10_rule 164 = .ok (.getfield 159, 3) := by decide +kernel
theorem dX10_rule_167 : decode cX10_rule 167 = .ok (.invokevirtual 162, 3) := by decide +kernel
theorem dX10_rule_170 : decode cX10_rule 170 = .ok (.ireturn, 1) := by decide +kernel
theorem dX10_rule_171 : decode cX10_rule 171 = .ok (.aload_n 0, 1) := by decide +kernel
theorem dX10_rule_172 : decode cX10_rule 172 = .ok (.getfield 23, 3) := by decide +kernel
theorem dX10_rule_175 : decode cX10_rule 175 = .ok (.aload_n 0, 1) := by decide +kernel
theorem dX10_rule_176 : decode cX10_rule 176 = .ok (.getfield 60, 3) := by decide +kernel
theorem dX10_rule_179 : decode cX10_rule 179 = .ok (.getfield 159, 3) := by decide +kernel
theorem dX10_rule_182 : decode cX10_rule 182 = .ok (.invokevirtual 166, 3) := by decide +kernel
theorem dX10_rule_185 : decode cX10_rule 185 = .ok (.ireturn, 1) := by decide +kernel
theorem dX10_rule_186 : decode cX10_rule 186 = .ok (.aload_n 0, 1) := by decide +kernel
theorem dX10_rule_187 : decode cX10_rule 187 = .ok (.getfield 23, 3) := by decide +kernel
theorem dX10_rule_190 : decode cX10_rule 190 = .ok (.invokevirtual 169, 3) := by decide +kernel
theorem dX10_rule_193 : decode cX10_rule 193 = .ok (.ireturn, 1) := by decide +kernel
theorem dX10_rule_194 : decode cX10_rule 194 = .ok (.aload_n 0, 1) := by decide +kernel
theorem dX10_rule_195 : decode cX10_rule 195 = .ok (.getfield 60, 3) := by decide +kernel
theorem dX10_rule_198 : decode cX10_rule 198 = .ok (.getfield 173, 3) := by decide +kernel
theorem dX10_rule_201 : decode cX10_rule 201 = .ok (.ireturn, 1) := by decide +kernel
theorem dX10_rule_202 : decode cX10_rule 202 = .ok (.ldc 144, 2) := by decide +kernel
theorem dX10_rule_204 : decode cX10_rule 204 = .ok (.ireturn, 1) := by decide +kernel
theorem dX10_ruled_0 : decode cX10_ruled 0 = .ok (.aload_n 0, 1) := by decide +kernel
theorem dX10_ruled_1 : decode cX10_ruled 1 = .ok (.iload_n 1, 1) := by decide +kernel
theorem dX10_ruled_2 : decode cX10_ruled 2 = .ok (.invokevirtual 217, 3) := by decide +kernel
theorem dX10_ruled_5 : decode cX10_ruled 5 = .ok (.ifCond .eq 12, 3) := by decide +kernel
theorem dX10_ruled_8 : decode cX10_ruled 8 = .ok (.iload_n 2, 1) := by decide +kernel
theorem dX10_ruled_9 : decode cX10_ruled 9 = .ok (.ifCond .lt 8, 3) := by decide +kernel
theorem dX10_ruled_12 : decode cX10_ruled 12 = .ok (.iload_n 2, 1) := by decide +kernel
theorem dX10_ruled_13 : decode cX10_ruled 13 = .ok (.iconst 3, 1) := by decide +kernel
theorem dX10_ruled_14 : decode cX10_ruled 14 = .ok (.if_icmp .le 5, 3) := by decide +kernel
theorem dX10_ruled_17 : decode cX10_ruled 17 = .ok (.iconst (-1), 1) := by decide +kernel
theorem dX10_ruled_18 : decode cX10_ruled 18 = .ok (.ireturn, 1) := by decide +kernel
theorem dX10_ruled_19 : decode cX10_ruled 19 = .ok (.iconst 0, 1) := by decide +kernel
theorem dX10_ruled_20 : decode cX10_ruled 20 = .ok (.istore_n 3, 1) := by decide +kernel
theorem dX10_ruled_21 : decode cX10_ruled 21 = .ok (.iconst 0, 1) := by decide +kernel
theorem dX10_ruled_22 : decode cX10_ruled 22 = .ok (.istore 4, 2) := by decide +kernel
theorem dX10_ruled_24 : decode cX10_ruled 24 = .ok (.iload 4, 2) := by decide +kernel
theorem dX10_ruled_26 : decode cX10_ruled 26 = .ok (.aload_n 0, 1) := by decide +kernel
theorem dX10_ruled_27 : decode cX10_ruled 27 = .ok (.invokevirtual 273, 3) := by decide +kernel
theorem dX10_ruled_30 : decode cX10_ruled 30 = .ok (.if_icmp .ge 33, 3) := by decide +kernel
theorem dX10_ruled_33 : decode cX10_ruled 33 = .ok (.aload_n 0, 1) := by decide +kernel
theorem dX10_ruled_34 : decode cX10_ruled 34 = .ok (.getfield 23, 3) := by decide +kernel
theorem dX10_ruled_37 : decode cX10_ruled 37 = .ok (.iload 4, 2) := by decide +kernel
theorem dX10_ruled_39 : decode cX10_ruled 39 = .ok (.invokevirtual 225, 3) := by decide +kernel
theorem dX10_ruled_42 : decode cX10_ruled 42 = .ok (.iload_n 1, 1) := by decide +kernel
theorem dX10_ruled_43 : decode cX10_ruled 43 = .ok (.if_icmp .ne 14, 3) := by decide +kernel
theorem dX10_ruled_46 : decode cX10_ruled 46 = .ok (.iload_n 3, 1) := by decide +kernel
theorem dX10_ruled_47 : decode cX10_ruled 47 = .ok (.aload_n 0, 1) := by decide +kernel
theorem dX10_ruled_48 : decode cX10_ruled 48 = .ok (.iload 4, 2) := by decide +kernel
theorem dX10_ruled_50 : decode cX10_ruled 50 = .ok (.iload_n 1, 1) := by decide +kernel
theorem dX10_ruled_51 : decode cX10_ruled 51 = .ok (.iload_n 2, 1) := by decide +kernel
theorem dX10_ruled_52 : decode cX10_ruled 52 = .ok (.invokevirtual 338, 3) := by decide +kernel
theorem dX10_ruled_55 : decode cX10_ruled 55 = .ok (.iadd, 1) := by decide +kernel
theorem dX10_ruled_56 : decode cX10_ruled 56 = .ok (.istore_n 3, 1) := by decide +kernel
theorem dX10_ruled_57 : decode cX10_ruled 57 = .ok (.iinc 4 1, 3) := by decide +kernel
theorem dX10_ruled_60 : decode cX10_ruled 60 = .ok (.goto (-36), 3) := by decide +kernel
theorem dX10_ruled_63 : decode cX10_ruled 63 = .ok (.iload_n 3, 1) := by decide +kernel
theorem dX10_ruled_64 : decode cX10_ruled 64 = .ok (.ireturn, 1) := by decide +kernel
theorem dX10_run_0 : decode cX10_run 0 = .ok (.aload_n 0, 1) := by decide +kernel
theorem dX10_run_1 : decode cX10_run 1 = .ok (.invokevirtual 183, 3) := by decide +kernel
theorem dX10_run_4 : decode cX10_run 4 = .ok (.istore_n 1, 1) := by decide +kernel
theorem dX10_run_5 : decode cX10_run 5 = .ok (.iload_n 1, 1) := by decide +kernel
theorem dX10_run_6 : decode cX10_run 6 = .ok (.iconst 1, 1) := by decide +kernel
theorem dX10_run_7 : decode cX10_run 7 = .ok (.if_icmp .ge 5, 3) := by decide +kernel
theorem dX10_run_10 : decode cX10_run 10 = .ok (.iconst (-1), 1) := by decide +kernel
theorem dX10_run_11 : decode cX10_run 11 = .ok (.ireturn, 1) := by decide +kernel
theorem dX10_run_12 : decode cX10_run 12 = .ok (.iconst 0, 1) := by decide +kernel
theorem dX10_run_13 : decode cX10_run 13 = .ok (.istore_n 2, 1) := by decide +kernel
theorem dX10_run_14 : decode cX10_run 14 = .ok (.iload_n 2, 1) := by decide +kernel
theorem dX10_run_15 : decode cX10_run 15 = .ok (.iload_n 1, 1) := by decide +kernel
theorem dX10_run_16 : decode cX10_run 16 = .ok (.if_icmp .ge 35, 3) := by decide +kernel
theorem dX10_run_19 : decode cX10_run 19 = .ok (.aload_n 0, 1) := by decide +kernel
theorem dX10_run_20 : decode cX10_run 20 = .ok (.getfield 73, 3) := by decide +kernel
theorem dX10_run_23 : decode cX10_run 23 = .ok (.aload_n 0, 1) := by decide +kernel
theorem dX10_run_24 : decode cX10_run 24 = .ok (.getfield 60, 3) := by decide +kernel
theorem dX10_run_27 : decode cX10_run 27 = .ok (.invokevirtual 186, 3) := by decide +kernel
theorem dX10_run_30 : decode cX10_run 30 = .ok (.aload_n 0, 1) := by decide +kernel
theorem dX10_run_31 : decode cX10_run 31 = .ok (.getfield 60, 3) := by decide +kernel
theorem dX10_run_34 : decode cX10_run 34 = .ok (.aload_n 0, 1) := by decide +kernel
theorem dX10_run_35 : decode cX10_run 35 = .ok (.getfield 23, 3) := by decide +kernel
theorem dX10_run_38 : decode cX10_run 38 = .ok (.aload_n 0, 1) := by decide +kernel
theorem dX10_run_39 : decode cX10_run 39 = .ok (.getfield 39, 3) := by decide +kernel
theorem dX10_run_42 : decode cX10_run 42 = .ok (.invokevirtual 190, 3) := by decide +kernel
theorem dX10_run_45 : decode cX10_run 45 = .ok (.iinc 2 1, 3) := by decide +kernel
theorem dX10_run_48 : decode cX10_run 48 = .ok (.goto (-34), 3) := by decide +kernel
theorem dX10_run_51 : decode cX10_run 51 = .ok (.iload_n 1, 1) := by decide +kernel
theorem dX10_run_52 : decode cX10_run 52 = .ok (.ireturn, 1) := by decide +kernel
theorem dX10_say_0 : decode cX10_say 0 = .ok (.aload_n 0, 1) := by decide +kernel
theorem dX10_say_1 : decode cX10_say 1 = .ok (.iload_n 1, 1) := by decide +kernel
theorem dX10_say_2 : decode cX10_say 2 = .ok (.iload_n 2, 1) := by decide +kernel
theorem dX10_say_3 : decode cX10_say 3 = .ok (.iload_n 3, 1) := by decide +kernel
theorem dX10_say_4 : decode cX10_say 4 = .ok (.iload 4, 2) := by decide +kernel
theorem dX10_say_6 : decode cX10_say 6 = .ok (.iload 5, 2) := by decide +kernel
theorem dX10_say_8 : decode cX10_say 8 = .ok (.invokevirtual 194, 3) := by decide +kernel
theorem dX10_say_11 : decode cX10_say 11 = .ok (.istore 6, 2) := by decide +kernel
theorem dX10_say_13 : decode cX10_say 13 = .ok (.iload 6, 2) := by decide +kernel
theorem dX10_say_15 : decode cX10_say 15 = .ok (.iconst (-1), 1) := by decide +kernel
theorem dX10_say_16 : decode cX10_say 16 = .ok (.if_icmp .eq 10, 3) := by decide +kernel
theorem dX10_say_19 : decode cX10_say 19 = .ok (.aload_n 0, 1) := by decide +kernel
theorem dX10_say_20 : decode cX10_say 20 = .ok (.iload 6, 2) := by decide +kernel
theorem dX10_say_22 : decode cX10_say 22 = .ok (.invokevirtual 198, 3) := by decide +kernel
theorem dX10_say_25 : decode cX10_say 25 = .ok (.ireturn, 1) := by decide +kernel
theorem dX10_say_26 : decode cX10_say 26 = .ok (.aload_n 0, 1) := by decide +kernel
theorem dX10_say_27 : decode cX10_say 27 = .ok (.getfield 73, 3) := by decide +kernel
theorem dX10_say_30 : decode cX10_say 30 = .ok (.aload_n 0, 1) := by decide +kernel
theorem dX10_say_31 : decode cX10_say 31 = .ok (.getfield 60, 3) := by decide +kernel
theorem dX10_say_34 : decode cX10_say 34 = .ok (.invokevirtual 186, 3) := by decide +kernel
theorem dX10_say_37 : decode cX10_say 37 = .ok (.aload_n 0, 1) := by decide +kernel
theorem dX10_say_38 : decode cX10_say 38 = .ok (.getfield 60, 3) := by decide +kernel
theorem dX10_say_41 : decode cX10_say 41 = .ok (.iload_n 1, 1) := by decide +kernel
theorem dX10_say_42 : decode cX10_say 42 = .ok (.iload_n 2, 1) := by decide +kernel
theorem dX10_say_43 : decode cX10_say 43 = .ok (.iload_n 3, 1) := by decide +kernel
theorem dX10_say_44 : decode cX10_say 44 = .ok (.iload 4, 2) := by decide +kernel
theorem dX10_say_46 : decode cX10_say 46 = .ok (.iload 5, 2) := by decide +kernel
theorem dX10_say_48 : decode cX10_say 48 = .ok (.invokevirtual 201, 3) := by decide +kernel
theorem dX10_say_51 : decode cX10_say 51 = .ok (.aload_n 0, 1) := by decide +kernel
theorem dX10_say_52 : decode cX10_say 52 = .ok (.getfield 60, 3) := by decide +kernel
theorem dX10_say_55 : decode cX10_say 55 = .ok (.getfield 173, 3) := by decide +kernel
theorem dX10_say_58 : decode cX10_say 58 = .ok (.ireturn, 1) := by decide +kernel
theorem dX10_shown_0 : decode cX10_shown 0 = .ok (.aload_n 0, 1) := by decide +kernel
theorem dX10_shown_1 : decode cX10_shown 1 = .ok (.iload_n 1, 1) := by decide +kernel
theorem dX10_shown_2 : decode cX10_shown 2 = .ok (.invokevirtual 241, 3) := by decide +kernel
theorem dX10_shown_5 : decode cX10_shown 5 = .ok (.ifCond .ne 5, 3) := by decide +kernel
theorem dX10_shown_8 : decode cX10_shown 8 = .ok (.iconst (-1), 1) := by decide +kernel
theorem dX10_shown_9 : decode cX10_shown 9 = .ok (.ireturn, 1) := by decide +kernel
theorem dX10_shown_10 : decode cX10_shown 10 = .ok (.aload_n 0, 1) := by decide +kernel
theorem dX10_shown_11 : decode cX10_shown 11 = .ok (.getfield 23, 3) := by decide +kernel
theorem dX10_shown_14 : decode cX10_shown 14 = .ok (.iload_n 1, 1) := by decide +kernel
theorem dX10_shown_15 : decode cX10_shown 15 = .ok (.invokevirtual 225, 3) := by decide +kernel
theorem dX10_shown_18 : decode cX10_shown 18 = .ok (.istore_n 3, 1) := by decide +kernel
theorem dX10_shown_19 : decode cX10_shown 19 = .ok (.aload_n 0, 1) := by decide +kernel
theorem dX10_shown_20 : decode cX10_shown 20 = .ok (.getfield 84, 3) := by decide +kernel
theorem dX10_shown_23 : decode cX10_shown 23 = .ok (.iconst 0, 1) := by decide +kernel
theorem dX10_shown_24 : decode cX10_shown 24 = .ok (.putfield 91, 3) := by decide +kernel
theorem dX10_shown_27 : decode cX10_shown 27 = .ok (.aload_n 0, 1) := by decide +kernel
theorem dX10_shown_28 : decode cX10_shown 28 = .ok (.getfield 84, 3) := by decide +kernel
theorem dX10_shown_31 : decode cX10_shown 31 = .ok (.ldc_w 354, 3) := by decide +kernel
theorem dX10_shown_34 : decode cX10_shown 34 = .ok (.iload_n 1, 1) := by decide +kernel
theorem dX10_shown_35 : decode cX10_shown 35 = .ok (.invokevirtual 356, 3) := by decide +kernel
theorem dX10_shown_38 : decode cX10_shown 38 = .ok (.aload_n 0, 1) := by decide +kernel
theorem dX10_shown_39 : decode cX10_shown 39 = .ok (.getfield 84, 3) := by decide +kernel
theorem dX10_shown_42 : decode cX10_shown 42 = .ok (.ldc_w 360, 3) := by decide +kernel
theorem dX10_shown_45 : decode cX10_shown 45 = .ok (.iload_n 3, 1) := by decide +kernel
theorem dX10_shown_46 : decode cX10_shown 46 = .ok (.invokevirtual 356, 3) := by decide +kernel
theorem dX10_shown_49 : decode cX10_shown 49 = .ok (.iconst 0, 1) := by decide +kernel
theorem dX10_shown_50 : decode cX10_shown 50 = .ok (.istore 4, 2) := by decide +kernel
theorem dX10_shown_52 : decode cX10_shown 52 = .ok (.iload 4, 2) := by decide +kernel
theorem dX10_shown_54 : decode cX10_shown 54 = .ok (.aload_n 0, 1) := by decide +kernel
theorem dX10_shown_55 : decode cX10_shown 55 = .ok (.getfield 23, 3) := by decide +kernel
theorem dX10_shown_58 : decode cX10_shown 58 = .ok (.getfield 132, 3) := by decide +kernel
theorem dX10_shown_61 : decode cX10_shown 61 = .ok (.if_icmp .ge 168, 3) := by decide +kernel
theorem dX10_shown_64 : decode cX10_shown 64 = .ok (.aload_n 0, 1) := by decide +kernel
theorem dX10_shown_65 : decode cX10_shown 65 = .ok (.getfield 84, 3) := by decide +kernel
theorem dX10_shown_68 : decode cX10_shown 68 = .ok (.aload_n 0, 1) := by decide +kernel
theorem dX10_shown_69 : decode cX10_shown 69 = .ok (.getfield 60, 3) := by decide +kernel
theorem dX10_shown_72 : decode cX10_shown 72 = .ok (.getfield 155, 3) := by decide +kernel
theorem dX10_shown_75 : decode cX10_shown 75 = .ok (.iload 4, 2) := by decide +kernel
theorem dX10_shown_77 : decode cX10_shown 77 = .ok (.invokestatic 235, 3) := by decide +kernel
theorem dX10_shown_80 : decode cX10_shown 80 = .ok (.iconst 1, 1) := by decide +kernel
theorem dX10_shown_81 : decode cX10_shown 81 = .ok (.if_icmp .ne 9, 3) := by decide +kernel
theorem dX10_shown_84 : decode cX10_shown 84 = .ok (.ldc_w 362, 3) := by decide +kernel
theorem dX10_shown_87 : decode cX10_shown 87 = .ok (.goto 6, 3) := by decide +kernel
theorem dX10_shown_90 : decode cX10_shown 90 = .ok (.ldc_w 364, 3) := by decide +kernel
theorem dX10_shown_93 : decode cX10_shown 93 = .ok (.iload 4, 2) := by decide +kernel
theorem dX10_shown_95 : decode cX10_shown 95 = .ok (.invokevirtual 356, 3) := by decide +kernel
theorem dX10_shown_98 : decode cX10_shown 98 = .ok (.aload_n 0, 1) := by decide +kernel
theorem dX10_shown_99 : decode cX10_shown 99 = .ok (.getfield 84, 3) := by decide +kernel
theorem dX10_shown_102 : decode cX10_shown 102 = .ok (.ldc_w 366, 3) := by decide +kernel
theorem dX10_shown_105 : decode cX10_shown 105 = .ok (.aload_n 0, 1) := by decide +kernel
theorem dX10_shown_106 : decode cX10_shown 106 = .ok (.getfield 60, 3) := by decide +kernel
theorem dX10_shown_109 : decode cX10_shown 109 = .ok (.getfield 244, 3) := by decide +kernel
theorem dX10_shown_112 : decode cX10_shown 112 = .ok (.iload_n 1, 1) := by decide +kernel
theorem dX10_shown_113 : decode cX10_shown 113 = .ok (.iaload, 1) := by decide +kernel
theorem dX10_shown_114 : decode cX10_shown 114 = .ok (.iload 4, 2) := by decide +kernel
theorem dX10_shown_116 : decode cX10_shown 116 = .ok (.invokestatic 235, 3) := by decide +kernel
theorem dX10_shown_119 : decode cX10_shown 119 = .ok (.invokevirtual 356, 3) := by decide +kernel
theorem dX10_shown_122 : decode cX10_shown 122 = .ok (.aload_n 0, 1) := by decide +kernel
theorem dX10_shown_123 : decode cX10_shown 123 = .ok (.getfield 84, 3) := by decide +kernel
theorem dX10_shown_126 : decode cX10_shown 126 = .ok (.aload_n 0, 1) := by decide +kernel
theorem dX10_shown_127 : decode cX10_shown 127 = .ok (.getfield 60, 3) := by decide +kernel
theorem dX10_shown_130 : decode cX10_shown 130 = .ok (.getfield 247, 3) := by decide +kernel
theorem dX10_shown_133 : decode cX10_shown 133 = .ok (.iload_n 1, 1) := by decide +kernel
theorem dX10_shown_134 : decode cX10_shown 134 = .ok (.iaload, 1) := by decide +kernel
theorem dX10_shown_135 : decode cX10_shown 135 = .ok (.iload 4, 2) := by decide +kernel
theorem dX10_shown_137 : decode cX10_shown 137 = .ok (.invokestatic 235, 3) := by decide +kernel
theorem dX10_shown_140 : decode cX10_shown 140 = .ok (.iconst 1, 1) := by decide +kernel
theorem dX10_shown_141 : decode cX10_shown 141 = .ok (.if_icmp .ne 9, 3) := by decide +kernel
theorem dX10_shown_144 : decode cX10_shown 144 = .ok (.ldc_w 368, 3) := by decide +kernel
theorem dX10_shown_147 : decode cX10_shown 147 = .ok (.goto 6, 3) := by decide +kernel
theorem dX10_shown_150 : decode cX10_shown 150 = .ok (.ldc_w 370, 3) := by decide +kernel
theorem dX10_shown_153 : decode cX10_shown 153 = .ok (.invokevirtual 372, 3) := by decide +kernel
theorem dX10_shown_156 : decode cX10_shown 156 = .ok (.aload_n 0, 1) := by decide +kernel
theorem dX10_shown_157 : decode cX10_shown 157 = .ok (.getfield 84, 3) := by decide +kernel
theorem dX10_shown_160 : decode cX10_shown 160 = .ok (.aload_n 0, 1) := by decide +kernel
theorem dX10_shown_161 : decode cX10_shown 161 = .ok (.getfield 60, 3) := by decide +kernel
theorem dX10_shown_164 : decode cX10_shown 164 = .ok (.getfield 266, 3) := by decide +kernel
theorem dX10_shown_167 : decode cX10_shown 167 = .ok (.iload_n 1, 1) := by decide +kernel
theorem dX10_shown_168 : decode cX10_shown 168 = .ok (.iaload, 1) := by decide +kernel
theorem dX10_shown_169 : decode cX10_shown 169 = .ok (.iload 4, 2) := by decide +kernel
theorem dX10_shown_171 : decode cX10_shown 171 = .ok (.invokestatic 235, 3) := by decide +kernel
theorem dX10_shown_174 : decode cX10_shown 174 = .ok (.iconst 1, 1) := by decide +kernel
theorem dX10_shown_175 : decode cX10_shown 175 = .ok (.if_icmp .ne 9, 3) := by decide +kernel
theorem dX10_shown_178 : decode cX10_shown 178 = .ok (.ldc_w 376, 3) := by decide +kernel
theorem dX10_shown_181 : decode cX10_shown 181 = .ok (.goto 6, 3) := by decide +kernel
theorem dX10_shown_184 : decode cX10_shown 184 = .ok (.ldc_w 370, 3) := by decide +kernel
theorem dX10_shown_187 : decode cX10_shown 187 = .ok (.invokevirtual 372, 3) := by decide +kernel
theorem dX10_shown_190 : decode cX10_shown 190 = .ok (.aload_n 0, 1) := by decide +kernel
theorem dX10_shown_191 : decode cX10_shown 191 = .ok (.getfield 84, 3) := by decide +kernel
theorem dX10_shown_194 : decode cX10_shown 194 = .ok (.aload_n 0, 1) := by decide +kernel
theorem dX10_shown_195 : decode cX10_shown 195 = .ok (.getfield 60, 3) := by decide +kernel
theorem dX10_shown_198 : decode cX10_shown 198 = .ok (.iload 4, 2) := by decide +kernel
theorem dX10_shown_200 : decode cX10_shown 200 = .ok (.invokevirtual 238, 3) := by decide +kernel
theorem dX10_shown_203 : decode cX10_shown 203 = .ok (.iload_n 3, 1) := by decide +kernel
theorem dX10_shown_204 : decode cX10_shown 204 = .ok (.invokestatic 235, 3) := by decide +kernel
theorem dX10_shown_207 : decode cX10_shown 207 = .ok (.iconst 1, 1) := by decide +kernel
theorem dX10_shown_208 : decode cX10_shown 208 = .ok (.if_icmp .ne 9, 3) := by decide +kernel
theorem dX10_shown_211 : decode cX10_shown 211 = .ok (.ldc_w 378, 3) := by decide +kernel
theorem dX10_shown_214 : decode cX10_shown 214 = .ok (.goto 6, 3) := by decide +kernel
theorem dX10_shown_217 : decode cX10_shown 217 = .ok (.ldc_w 370, 3) := by decide +kernel
theorem dX10_shown_220 : decode cX10_shown 220 = .ok (.invokevirtual 372, 3) := by decide +kernel
theorem dX10_shown_223 : decode cX10_shown 223 = .ok (.iinc 4 1, 3) := by decide +kernel
theorem dX10_shown_226 : decode cX10_shown 226 = .ok (.goto (-174), 3) := by decide +kernel
theorem dX10_shown_229 : decode cX10_shown 229 = .ok (.aload_n 0, 1) := by decide +kernel
theorem dX10_shown_230 : decode cX10_shown 230 = .ok (.iload_n 2, 1) := by decide +kernel
theorem dX10_shown_231 : decode cX10_shown 231 = .ok (.invokevirtual 332, 3) := by decide +kernel
theorem dX10_shown_234 : decode cX10_shown 234 = .ok (.ireturn, 1) := by decide +kernel
theorem dX10_starts_0 : decode cX10_starts 0 = .ok (.aload_n 0, 1) := by decide +kernel
theorem dX10_starts_1 : decode cX10_starts 1 = .ok (.iload_n 1, 1) := by decide +kernel
theorem dX10_starts_2 : decode cX10_starts 2 = .ok (.aload_n 0, 1) := by decide +kernel
theorem dX10_starts_3 : decode cX10_starts 3 = .ok (.getfield 23, 3) := by decide +kernel
theorem dX10_starts_6 : decode cX10_starts 6 = .ok (.invokevirtual 205, 3) := by decide +kernel
theorem dX10_starts_9 : decode cX10_starts 9 = .ok (.invokevirtual 208, 3) := by decide +kernel
theorem dX10_starts_12 : decode cX10_starts 12 = .ok (.istore_n 2, 1) := by decide +kernel
theorem dX10_starts_13 : decode cX10_starts 13 = .ok (.iload_n 2, 1) := by decide +kernel
theorem dX10_starts_14 : decode cX10_starts 14 = .ok (.iconst (-1), 1) := by decide +kernel
theorem dX10_starts_15 : decode cX10_starts 15 = .ok (.if_icmp .eq 9, 3) := by decide +kernel
theorem dX10_starts_18 : decode cX10_starts 18 = .ok (.aload_n 0, 1) := by decide +kernel
theorem dX10_starts_19 : decode cX10_starts 19 = .ok (.iload_n 2, 1) := by decide +kernel
theorem dX10_starts_20 : decode cX10_starts 20 = .ok (.invokevirtual 198, 3) := by decide +kernel
theorem dX10_starts_23 : decode cX10_starts 23 = .ok (.ireturn, 1) := by decide +kernel
theorem dX10_starts_24 : decode cX10_starts 24 = .ok (.aload_n 0, 1) := by decide +kernel
theorem dX10_starts_25 : decode cX10_starts 25 = .ok (.getfield 60, 3) := by decide +kernel
theorem dX10_starts_28 : decode cX10_starts 28 = .ok (.getfield 154, 3) := by decide +kernel
theorem dX10_starts_31 : decode cX10_starts 31 = .ok (.istore_n 3, 1) := by decide +kernel
theorem dX10_starts_32 : decode cX10_starts 32 = .ok (.aload_n 0, 1) := by decide +kernel
theorem dX10_starts_33 : decode cX10_starts 33 = .ok (.getfield 73, 3) := by decide +kernel
theorem dX10_starts_36 : decode cX10_starts 36 = .ok (.aload_n 0, 1) := by decide +kernel
theorem dX10_starts_37 : decode cX10_starts 37 = .ok (.getfield 60, 3) := by decide +kernel
theorem dX10_starts_40 : decode cX10_starts 40 = .ok (.invokevirtual 186, 3) := by decide +kernel
theorem dX10_starts_43 : decode cX10_starts 43 = .ok (.aload_n 0, 1) := by decide +kernel
theorem dX10_starts_44 : decode cX10_starts 44 = .ok (.getfield 60, 3) := by decide +kernel
theorem dX10_starts_47 : decode cX10_starts 47 = .ok (.iload_n 1, 1) := by decide +kernel
theorem dX10_starts_48 : decode cX10_starts 48 = .ok (.putfield 154, 3) := by decide +kernel
theorem dX10_starts_51 : decode cX10_starts 51 = .ok (.aload_n 0, 1) := by decide +kernel
theorem dX10_starts_52 : decode cX10_starts 52 = .ok (.getfield 60, 3) := by decide +kernel
theorem dX10_starts_55 : decode cX10_starts 55 = .ok (.iload_n 1, 1) := by decide +kernel
theorem dX10_starts_56 : decode cX10_starts 56 = .ok (.putfield 211, 3) := by decide +kernel
theorem dX10_starts_59 : decode cX10_starts 59 = .ok (.iload_n 3, 1) := by decide +kernel
theorem dX10_starts_60 : decode cX10_starts 60 = .ok (.ireturn, 1) := by decide +kernel
theorem dX10_state_0 : decode cX10_state 0 = .ok (.aload_n 0, 1) := by decide +kernel
theorem dX10_state_1 : decode cX10_state 1 = .ok (.getfield 108, 3) := by decide +kernel
theorem dX10_state_4 : decode cX10_state 4 = .ok (.ifCond .ne 5, 3) := by decide +kernel
theorem dX10_state_7 : decode cX10_state 7 = .ok (.iconst (-1), 1) := by decide +kernel
theorem dX10_state_8 : decode cX10_state 8 = .ok (.ireturn, 1) := by decide +kernel
theorem dX10_state_9 : decode cX10_state 9 = .ok (.aload_n 0, 1) := by decide +kernel
theorem dX10_state_10 : decode cX10_state 10 = .ok (.invokevirtual 273, 3) := by decide +kernel
theorem dX10_state_13 : decode cX10_state 13 = .ok (.istore_n 2, 1) := by decide +kernel
theorem dX10_state_14 : decode cX10_state 14 = .ok (.iload_n 2, 1) := by decide +kernel
theorem dX10_state_15 : decode cX10_state 15 = .ok (.ifCond .le 17, 3) := by decide +kernel
theorem dX10_state_18 : decode cX10_state 18 = .ok (.aload_n 0, 1) := by decide +kernel
theorem dX10_state_19 : decode cX10_state 19 = .ok (.getfield 60, 3) := by decide +kernel
theorem dX10_state_22 : decode cX10_state 22 = .ok (.getfield 244, 3) := by decide +kernel
theorem dX10_state_25 : decode cX10_state 25 = .ok (.iload_n 2, 1) := by decide +kernel
theorem dX10_state_26 : decode cX10_state 26 = .ok (.iconst 1, 1) := by decide +kernel
theorem dX10_state_27 : decode cX10_state 27 = .ok (.isub, 1) := by decide +kernel
theorem dX10_state_28 : decode cX10_state 28 = .ok (.iaload, 1) := by decide +kernel
theorem dX10_state_29 : decode cX10_state 29 = .ok (.goto 10, 3) := by decide +kernel
theorem dX10_state_32 : decode cX10_state 32 = .ok (.aload_n 0, 1) := by decide +kernel
theorem dX10_state_33 : decode cX10_state 33 = .ok (.getfield 60, 3) := by decide +kernel
theorem dX10_state_36 : decode cX10_state 36 = .ok (.getfield 154, 3) := by decide +kernel
theorem dX10_state_39 : decode cX10_state 39 = .ok (.istore_n 3, 1) := by decide +kernel
theorem dX10_state_40 : decode cX10_state 40 = .ok (.iload_n 1, 1) := by decide +kernel
theorem dX10_state_41 : decode cX10_state 41 = .ok (.tableswitch 125 0 3 #[31, 52, 69, 98], 31) := by decide +kernel
theorem dX10_state_72 : decode cX10_state 72 = .ok (.aload_n 0, 1) := by decide +kernel
theorem dX10_state_73 : decode cX10_state 73 = .ok (.getfield 60, 3) := by decide +kernel
theorem dX10_state_76 : decode cX10_state 76 = .ok (.aload_n 0, 1) := by decide +kernel
theorem dX10_state_77 : decode cX10_state 77 = .ok (.getfield 23, 3) := by decide +kernel
theorem dX10_state_80 : decode cX10_state 80 = .ok (.iload_n 3, 1) := by decide +kernel
theorem dX10_state_81 : decode cX10_state 81 = .ok (.invokevirtual 276, 3) := by decide +kernel
theorem dX10_state_84 : decode cX10_state 84 = .ok (.ifCond .eq 7, 3) := by decide +kernel
theorem dX10_state_87 : decode cX10_state 87 = .ok (.iconst 1, 1) := by decide +kernel
theorem dX10_state_88 : decode cX10_state 88 = .ok (.goto 4, 3) := by decide +kernel
theorem dX10_state_91 : decode cX10_state 91 = .ok (.iconst 0, 1) := by decide +kernel
theorem dX10_state_92 : decode cX10_state 92 = .ok (.ireturn, 1) := by decide +kernel
theorem dX10_state_93 : decode cX10_state 93 = .ok (.iload_n 3, 1) := by decide +kernel
theorem dX10_state_94 : decode cX10_state 94 = .ok (.aload_n 0, 1) := by decide +kernel
theorem dX10_state_95 : decode cX10_state 95 = .ok (.getfield 60, 3) := by decide +kernel
theorem dX10_state_98 : decode cX10_state 98 = .ok (.aload_n 0, 1) := by decide +kernel
theorem dX10_state_99 : decode cX10_state 99 = .ok (.getfield 23, 3) := by decide +kernel
theorem dX10_state_102 : decode cX10_state 102 = .ok (.invokevirtual 280, 3) := by decide +kernel
theorem dX10_state_105 : decode cX10_state 105 = .ok (.iand, 1) := by decide +kernel
theorem dX10_state_106 : decode cX10_state 106 = .ok (.invokestatic 283, 3) := by decide +kernel
theorem dX10_state_109 : decode cX10_state 109 = .ok (.ireturn, 1) := by decide +kernel
theorem dX10_state_110 : decode cX10_state 110 = .ok (.aload_n 0, 1) := by decide +kernel
theorem dX10_state_111 : decode cX10_state 111 = .ok (.getfield 60, 3) := by decide +kernel
theorem dX10_state_114 : decode cX10_state 114 = .ok (.aload_n 0, 1) := by decide +kernel
theorem dX10_state_115 : decode cX10_state 115 = .ok (.getfield 23, 3) := by decide +kernel
theorem dX10_state_118 : decode cX10_state 118 = .ok (.iload_n 3, 1) := by decide +kernel
theorem dX10_state_119 : decode cX10_state 119 = .ok (.invokevirtual 276, 3) := by decide +kernel
theorem dX10_state_122 : decode cX10_state 122 = .ok (.ifCond .eq 15, 3) := by decide +kernel
theorem dX10_state_125 : decode cX10_state 125 = .ok (.aload_n 0, 1) := by decide +kernel
theorem dX10_state_126 : decode cX10_state 126 = .ok (.iload_n 3, 1) := by decide +kernel
theorem dX10_state_127 : decode cX10_state 127 = .ok (.invokevirtual 288, 3) := by decide +kernel
theorem dX10_state_130 : decode cX10_state 130 = .ok (.ifCond .eq 7, 3) := by decide +kernel
theorem dX10_state_133 : decode cX10_state 133 = .ok (.iconst 1, 1) := by decide +kernel
theorem dX10_state_134 : decode cX10_state 134 = .ok (.goto 4, 3) := by decide +kernel
theorem dX10_state_137 : decode cX10_state 137 = .ok (.iconst 0, 1) := by decide +kernel
theorem dX10_state_138 : decode cX10_state 138 = .ok (.ireturn, 1) := by decide +kernel
theorem dX10_state_139 : decode cX10_state 139 = .ok (.aload_n 0, 1) := by decide +kernel
theorem dX10_state_140 : decode cX10_state 140 = .ok (.getfield 60, 3) := by decide +kernel
theorem dX10_state_143 : decode cX10_state 143 = .ok (.aload_n 0, 1) := by decide +kernel
theorem dX10_state_144 : decode cX10_state 144 = .ok (.getfield 23, 3) := by decide +kernel
theorem dX10_state_147 : decode cX10_state 147 = .ok (.aload_n 0, 1) := by decide +kernel
theorem dX10_state_148 : decode cX10_state 148 = .ok (.getfield 60, 3) := by decide +kernel
theorem dX10_state_151 : decode cX10_state 151 = .ok (.getfield 154, 3) := by decide +kernel
theorem dX10_state_154 : decode cX10_state 154 = .ok (.invokevirtual 276, 3) := by decide +kernel
theorem dX10_state_157 : decode cX10_state 157 = .ok (.ifCond .eq 7, 3) := by decide +kernel
theorem dX10_state_160 : decode cX10_state 160 = .ok (.iconst 1, 1) := by decide +kernel
theorem dX10_state_161 : decode cX10_state 161 = .ok (.goto 4, 3) := by decide +kernel
theorem dX10_state_164 : decode cX10_state 164 = .ok (.iconst 0, 1) := by decide +kernel
theorem dX10_state_165 : decode cX10_state 165 = .ok (.ireturn, 1) := by decide +kernel
theorem dX10_state_166 : decode cX10_state 166 = .ok (.iconst (-1), 1) := by decide +kernel
theorem dX10_state_167 : decode cX10_state 167 = .ok (.ireturn, 1) := by decide +kernel
theorem dX10_status_0 : decode cX10_status 0 = .ok (.iload_n 1, 1) := by decide +kernel
theorem dX10_status_1 : decode cX10_status 1 = .ok (.ifCond .lt 12, 3) := by decide +kernel
theorem dX10_status_4 : decode cX10_status 4 = .ok (.iload_n 1, 1) := by decide +kernel
theorem dX10_status_5 : decode cX10_status 5 = .ok (.aload_n 0, 1) := by decide +kernel
theorem dX10_status_6 : decode cX10_status 6 = .ok (.getfield 87, 3) := by decide +kernel
theorem dX10_status_9 : decode cX10_status 9 = .ok (.arraylength, 1) := by decide +kernel
theorem dX10_status_10 : decode cX10_status 10 = .ok (.if_icmp .lt 7, 3) := by decide +kernel
theorem dX10_status_13 : decode cX10_status 13 = .ok (.iconst (-1), 1) := by decide +kernel
theorem dX10_status_14 : decode cX10_status 14 = .ok (.goto 9, 3) := by decide +kernel
theorem dX10_status_17 : decode cX10_status 17 = .ok (.aload_n 0, 1) := by decide +kernel
theorem dX10_status_18 : decode cX10_status 18 = .ok (.getfield 87, 3) := by decide +kernel
theorem dX10_status_21 : decode cX10_status 21 = .ok (.iload_n 1, 1) := by decide +kernel
theorem dX10_status_22 : decode cX10_status 22 = .ok (.iaload, 1) := by decide +kernel
theorem dX10_status_23 : decode cX10_status 23 = .ok (.ireturn, 1) := by decide +kernel
theorem dX10_told_0 : decode cX10_told 0 = .ok (.aload_n 0, 1) := by decide +kernel
theorem dX10_told_1 : decode cX10_told 1 = .ok (.iload_n 1, 1) := by decide +kernel
theorem dX10_told_2 : decode cX10_told 2 = .ok (.invokevirtual 217, 3) := by decide +kernel
theorem dX10_told_5 : decode cX10_told 5 = .ok (.ifCond .eq 11, 3) := by decide +kernel
theorem dX10_told_8 : decode cX10_told 8 = .ok (.aload_n 0, 1) := by decide +kernel
theorem dX10_told_9 : decode cX10_told 9 = .ok (.iload_n 2, 1) := by decide +kernel
theorem dX10_told_10 : decode cX10_told 10 = .ok (.invokevirtual 241, 3) := by decide +kernel
theorem dX10_told_13 : decode cX10_told 13 = .ok (.ifCond .ne 5, 3) := by decide +kernel
theorem dX10_told_16 : decode cX10_told 16 = .ok (.iconst (-1), 1) := by decide +kernel
theorem dX10_told_17 : decode cX10_told 17 = .ok (.ireturn, 1) := by decide +kernel
theorem dX10_told_18 : decode cX10_told 18 = .ok (.aload_n 0, 1) := by decide +kernel
theorem dX10_told_19 : decode cX10_told 19 = .ok (.getfield 23, 3) := by decide +kernel
theorem dX10_told_22 : decode cX10_told 22 = .ok (.getfield 145, 3) := by decide +kernel
theorem dX10_told_25 : decode cX10_told 25 = .ok (.iconst 1, 1) := by decide +kernel
theorem dX10_told_26 : decode cX10_told 26 = .ok (.if_icmp .ne 7, 3) := by decide +kernel
theorem dX10_told_29 : decode cX10_told 29 = .ok (.iconst 1, 1) := by decide +kernel
theorem dX10_told_30 : decode cX10_told 30 = .ok (.goto 4, 3) := by decide +kernel
theorem dX10_told_33 : decode cX10_told 33 = .ok (.iconst 0, 1) := by decide +kernel
theorem dX10_told_34 : decode cX10_told 34 = .ok (.istore 4, 2) := by decide +kernel
theorem dX10_told_36 : decode cX10_told 36 = .ok (.iload_n 3, 1) := by decide +kernel
theorem dX10_told_37 : decode cX10_told 37 = .ok (.tableswitch 173 0 7 #[47, 61, 75, 90, 101, 115, 139, 159], 47) := by decide +kernel
theorem dX10_told_84 : decode cX10_told 84 = .ok (.aload_n 0, 1) := by decide +kernel
theorem dX10_told_85 : decode cX10_told 85 = .ok (.getfield 60, 3) := by decide +kernel
theorem dX10_told_88 : decode cX10_told 88 = .ok (.getfield 244, 3) := by decide +kernel
theorem dX10_told_91 : decode cX10_told 91 = .ok (.iload_n 2, 1) := by decide +kernel
theorem dX10_told_92 : decode cX10_told 92 = .ok (.iaload, 1) := by decide +kernel
theorem dX10_told_93 : decode cX10_told 93 = .ok (.iload_n 1, 1) := by decide +kernel
theorem dX10_told_94 : decode cX10_told 94 = .ok (.invokestatic 235, 3) := by decide +kernel
theorem dX10_told_97 : decode cX10_told 97 = .ok (.ireturn, 1) := by decide +kernel
theorem dX10_told_98 : decode cX10_told 98 = .ok (.aload_n 0, 1) := by decide +kernel
theorem dX10_told_99 : decode cX10_told 99 = .ok (.getfield 60, 3) := by decide +kernel
theorem dX10_told_102 : decode cX10_told 102 = .ok (.getfield 247, 3) := by decide +kernel
theorem dX10_told_105 : decode cX10_told 105 = .ok (.iload_n 2, 1) := by decide +kernel
theorem dX10_told_106 : decode cX10_told 106 = .ok (.iaload, 1) := by decide +kernel
theorem dX10_told_107 : decode cX10_told 107 = .ok (.iload_n 1, 1) := by decide +kernel
theorem dX10_told_108 : decode cX10_told 108 = .ok (.invokestatic 235, 3) := by decide +kernel
theorem dX10_told_111 : decode cX10_told 111 = .ok (.ireturn, 1) := by decide +kernel
theorem dX10_told_112 : decode cX10_told 112 = .ok (.aload_n 0, 1) := by decide +kernel
theorem dX10_told_113 : decode cX10_told 113 = .ok (.getfield 60, 3) := by decide +kernel
theorem dX10_told_116 : decode cX10_told 116 = .ok (.aload_n 0, 1) := by decide +kernel
theorem dX10_told_117 : decode cX10_told 117 = .ok (.getfield 23, 3) := by decide +kernel
theorem dX10_told_120 : decode cX10_told 120 = .ok (.iload_n 2, 1) := by decide +kernel
theorem dX10_told_121 : decode cX10_told 121 = .ok (.iconst 0, 1) := by decide +kernel
theorem dX10_told_122 : decode cX10_told 122 = .ok (.iload_n 1, 1) := by decide +kernel
theorem dX10_told_123 : decode cX10_told 123 = .ok (.invokevirtual 250, 3) := by decide +kernel
theorem dX10_told_126 : decode cX10_told 126 = .ok (.ireturn, 1) := by decide +kernel
theorem dX10_told_127 : decode cX10_told 127 = .ok (.aload_n 0, 1) := by decide +kernel
theorem dX10_told_128 : decode cX10_told 128 = .ok (.getfield 60, 3) := by decide +kernel
theorem dX10_told_131 : decode cX10_told 131 = .ok (.iload_n 2, 1) := by decide +kernel
theorem dX10_told_132 : decode cX10_told 132 = .ok (.iconst 0, 1) := by decide +kernel
theorem dX10_told_133 : decode cX10_told 133 = .ok (.iload_n 1, 1) := by decide +kernel
theorem dX10_told_134 : decode cX10_told 134 = .ok (.invokevirtual 254, 3) := by decide +kernel
theorem dX10_told_137 : decode cX10_told 137 = .ok (.ireturn, 1) := by decide +kernel
theorem dX10_told_138 : decode cX10_told 138 = .ok (.aload_n 0, 1) := by decide +kernel
theorem dX10_told_139 : decode cX10_told 139 = .ok (.getfield 60, 3) := by decide +kernel
theorem dX10_told_142 : decode cX10_told 142 = .ok (.getfield 258, 3) := by decide +kernel
theorem dX10_told_145 : decode cX10_told 145 = .ok (.iload_n 2, 1) := by decide +kernel
theorem dX10_told_146 : decode cX10_told 146 = .ok (.laload, 1) := by decide +kernel
theorem dX10_told_147 : decode cX10_told 147 = .ok (.iload_n 1, 1) := by decide +kernel
theorem dX10_told_148 : decode cX10_told 148 = .ok (.invokestatic 262, 3) := by decide +kernel
theorem dX10_told_151 : decode cX10_told 151 = .ok (.ireturn, 1) := by decide +kernel
theorem dX10_told_152 : decode cX10_told 152 = .ok (.iload 4, 2) := by decide +kernel
theorem dX10_told_154 : decode cX10_told 154 = .ok (.ifCond .eq 7, 3) := by decide +kernel
theorem dX10_told_157 : decode cX10_told 157 = .ok (.iconst (-1), 1) := by decide +kernel
theorem dX10_told_158 : decode cX10_told 158 = .ok (.goto 17, 3) := by decide +kernel
theorem dX10_told_161 : decode cX10_told 161 = .ok (.aload_n 0, 1) := by decide +kernel
theorem dX10_told_162 : decode cX10_told 162 = .ok (.getfield 60, 3) := by decide +kernel
theorem dX10_told_165 : decode cX10_told 165 = .ok (.aload_n 0, 1) := by decide +kernel
theorem dX10_told_166 : decode cX10_told 166 = .ok (.getfield 23, 3) := by decide +kernel
theorem dX10_told_169 : decode cX10_told 169 = .ok (.iload_n 2, 1) := by decide +kernel
theorem dX10_told_170 : decode cX10_told 170 = .ok (.iconst 1, 1) := by decide +kernel
theorem dX10_told_171 : decode cX10_told 171 = .ok (.iload_n 1, 1) := by decide +kernel
theorem dX10_told_172 : decode cX10_told 172 = .ok (.invokevirtual 250, 3) := by decide +kernel
theorem dX10_told_175 : decode cX10_told 175 = .ok (.ireturn, 1) := by decide +kernel
theorem dX10_told_176 : decode cX10_told 176 = .ok (.iload 4, 2) := by decide +kernel
theorem dX10_told_178 : decode cX10_told 178 = .ok (.ifCond .eq 7, 3) := by decide +kernel
theorem dX10_told_181 : decode cX10_told 181 = .ok (.iconst (-1), 1) := by decide +kernel
theorem dX10_told_182 : decode cX10_told 182 = .ok (.goto 13, 3) := by decide +kernel
theorem dX10_told_185 : decode cX10_told 185 = .ok (.aload_n 0, 1) := by decide +kernel
theorem dX10_told_186 : decode cX10_told 186 = .ok (.getfield 60, 3) := by decide +kernel
theorem dX10_told_189 : decode cX10_told 189 = .ok (.iload_n 2, 1) := by decide +kernel
theorem dX10_told_190 : decode cX10_told 190 = .ok (.iconst 1, 1) := by decide +kernel
theorem dX10_told_191 : decode cX10_told 191 = .ok (.iload_n 1, 1) := by decide +kernel
theorem dX10_told_192 : decode cX10_told 192 = .ok (.invokevirtual 254, 3) := by decide +kernel
theorem dX10_told_195 : decode cX10_told 195 = .ok (.ireturn, 1) := by decide +kernel
theorem dX10_told_196 : decode cX10_told 196 = .ok (.aload_n 0, 1) := by decide +kernel
theorem dX10_told_197 : decode cX10_told 197 = .ok (.getfield 60, 3) := by decide +kernel
theorem dX10_told_200 : decode cX10_told 200 = .ok (.getfield 266, 3) := by decide +kernel
theorem dX10_told_203 : decode cX10_told 203 = .ok (.iload_n 2, 1) := by decide +kernel
theorem dX10_told_204 : decode cX10_told 204 = .ok (.iaload, 1) := by decide +kernel
theorem dX10_told_205 : decode cX10_told 205 = .ok (.iload_n 1, 1) := by decide +kernel
theorem dX10_told_206 : decode cX10_told 206 = .ok (.invokestatic 235, 3) := by decide +kernel
theorem dX10_told_209 : decode cX10_told 209 = .ok (.ireturn, 1) := by decide +kernel
theorem dX10_told_210 : decode cX10_told 210 = .ok (.iconst (-1), 1) := by decide +kernel
theorem dX10_told_211 : decode cX10_told 211 = .ok (.ireturn, 1) := by decide +kernel
theorem dX10_trueRuler_0 : decode cX10_trueRuler 0 = .ok (.iconst 0, 1) := by decide +kernel
theorem dX10_trueRuler_1 : decode cX10_trueRuler 1 = .ok (.istore_n 1, 1) := by decide +kernel
theorem dX10_trueRuler_2 : decode cX10_trueRuler 2 = .ok (.aload_n 0, 1) := by decide +kernel
theorem dX10_trueRuler_3 : decode cX10_trueRuler 3 = .ok (.getfield 108, 3) := by decide +kernel
theorem dX10_trueRuler_6 : decode cX10_trueRuler 6 = .ok (.ifCond .eq 43, 3) := by decide +kernel
theorem dX10_trueRuler_9 : decode cX10_trueRuler 9 = .ok (.iload_n 1, 1) := by decide +kernel
theorem dX10_trueRuler_10 : decode cX10_trueRuler 10 = .ok (.aload_n 0, 1) := by decide +kernel
theorem dX10_trueRuler_11 : decode cX10_trueRuler 11 = .ok (.getfield 23, 3) := by decide +kernel
theorem dX10_trueRuler_14 : decode cX10_trueRuler 14 = .ok (.getfield 151, 3) := by decide +kernel
theorem dX10_trueRuler_17 : decode cX10_trueRuler 17 = .ok (.if_icmp .ge 32, 3) := by decide +kernel
theorem dX10_trueRuler_20 : decode cX10_trueRuler 20 = .ok (.aload_n 0, 1) := by decide +kernel
theorem dX10_trueRuler_21 : decode cX10_trueRuler 21 = .ok (.getfield 60, 3) := by decide +kernel
theorem dX10_trueRuler_24 : decode cX10_trueRuler 24 = .ok (.getfield 155, 3) := by decide +kernel
theorem dX10_trueRuler_27 : decode cX10_trueRuler 27 = .ok (.aload_n 0, 1) := by decide +kernel
theorem dX10_trueRuler_28 : decode cX10_trueRuler 28 = .ok (.getfield 23, 3) := by decide +kernel
theorem dX10_trueRuler_31 : decode cX10_trueRuler 31 = .ok (.iload_n 1, 1) := by decide +kernel
theorem dX10_trueRuler_32 : decode cX10_trueRuler 32 = .ok (.invokevirtual 225, 3) := by decide +kernel
theorem dX10_trueRuler_35 : decode cX10_trueRuler 35 = .ok (.invokestatic 235, 3) := by decide +kernel
theorem dX10_trueRuler_38 : decode cX10_trueRuler 38 = .ok (.ifCond .ne 5, 3) := by decide +kernel
theorem dX10_trueRuler_41 : decode cX10_trueRuler 41 = .ok (.iload_n 1, 1) := by decide +kernel
theorem dX10_trueRuler_42 : decode cX10_trueRuler 42 = .ok (.ireturn, 1) := by decide +kernel
theorem dX10_trueRuler_43 : decode cX10_trueRuler 43 = .ok (.iinc 1 1, 3) := by decide +kernel
theorem dX10_trueRuler_46 : decode cX10_trueRuler 46 = .ok (.goto (-44), 3) := by decide +kernel
theorem dX10_trueRuler_49 : decode cX10_trueRuler 49 = .ok (.iconst (-1), 1) := by decide +kernel
theorem dX10_trueRuler_50 : decode cX10_trueRuler 50 = .ok (.ireturn, 1) := by decide +kernel
theorem dX10_undo_0 : decode cX10_undo 0 = .ok (.aload_n 0, 1) := by decide +kernel
theorem dX10_undo_1 : decode cX10_undo 1 = .ok (.getfield 73, 3) := by decide +kernel
theorem dX10_undo_4 : decode cX10_undo 4 = .ok (.aload_n 0, 1) := by decide +kernel
theorem dX10_undo_5 : decode cX10_undo 5 = .ok (.getfield 60, 3) := by decide +kernel
theorem dX10_undo_8 : decode cX10_undo 8 = .ok (.invokevirtual 380, 3) := by decide +kernel
theorem dX10_undo_11 : decode cX10_undo 11 = .ok (.ifCond .eq 13, 3) := by decide +kernel
theorem dX10_undo_14 : decode cX10_undo 14 = .ok (.aload_n 0, 1) := by decide +kernel
theorem dX10_undo_15 : decode cX10_undo 15 = .ok (.getfield 73, 3) := by decide +kernel
theorem dX10_undo_18 : decode cX10_undo 18 = .ok (.getfield 119, 3) := by decide +kernel
theorem dX10_undo_21 : decode cX10_undo 21 = .ok (.goto 4, 3) := by decide +kernel
theorem dX10_undo_24 : decode cX10_undo 24 = .ok (.iconst (-1), 1) := by decide +kernel
theorem dX10_undo_25 : decode cX10_undo 25 = .ok (.ireturn, 1) := by decide +kernel
theorem dX10_weakest_0 : decode cX10_weakest 0 = .ok (.aload_n 0, 1) := by decide +kernel
theorem dX10_weakest_1 : decode cX10_weakest 1 = .ok (.getfield 108, 3) := by decide +kernel
theorem dX10_weakest_4 : decode cX10_weakest 4 = .ok (.ifCond .ne 6, 3) := by decide +kernel
theorem dX10_weakest_7 : decode cX10_weakest 7 = .ok (.bipush (-2), 2) := by decide +kernel
theorem dX10_weakest_9 : decode cX10_weakest 9 = .ok (.ireturn, 1) := by decide +kernel
theorem dX10_weakest_10 : decode cX10_weakest 10 = .ok (.iconst (-1), 1) := by decide +kernel
theorem dX10_weakest_11 : decode cX10_weakest 11 = .ok (.istore_n 1, 1) := by decide +kernel
theorem dX10_weakest_12 : decode cX10_weakest 12 = .ok (.aload_n 0, 1) := by decide +kernel
theorem dX10_weakest_13 : decode cX10_weakest 13 = .ok (.getfield 23, 3) := by decide +kernel
theorem dX10_weakest_16 : decode cX10_weakest 16 = .ok (.getfield 132, 3) := by decide +kernel
theorem dX10_weakest_19 : decode cX10_weakest 19 = .ok (.iconst 1, 1) := by decide +kernel
theorem dX10_weakest_20 : decode cX10_weakest 20 = .ok (.isub, 1) := by decide +kernel
theorem dX10_weakest_21 : decode cX10_weakest 21 = .ok (.istore_n 2, 1) := by decide +kernel
theorem dX10_weakest_22 : decode cX10_weakest 22 = .ok (.iload_n 2, 1) := by decide +kernel
theorem dX10_weakest_23 : decode cX10_weakest 23 = .ok (.ifCond .lt 99, 3) := by decide +kernel
theorem dX10_weakest_26 : decode cX10_weakest 26 = .ok (.aload_n 0, 1) := by decide +kernel
theorem dX10_weakest_27 : decode cX10_weakest 27 = .ok (.getfield 60, 3) := by decide +kernel
theorem dX10_weakest_30 : decode cX10_weakest 30 = .ok (.getfield 155, 3) := by decide +kernel
theorem dX10_weakest_33 : decode cX10_weakest 33 = .ok (.iconst 1, 1) := by decide +kernel
theorem dX10_weakest_34 : decode cX10_weakest 34 = .ok (.iload_n 2, 1) := by decide +kernel
theorem dX10_weakest_35 : decode cX10_weakest 35 = .ok (.ishl, 1) := by decide +kernel
theorem dX10_weakest_36 : decode cX10_weakest 36 = .ok (.ior, 1) := by decide +kernel
theorem dX10_weakest_37 : decode cX10_weakest 37 = .ok (.istore_n 3, 1) := by decide +kernel
theorem dX10_weakest_38 : decode cX10_weakest 38 = .ok (.iload_n 3, 1) := by decide +kernel
theorem dX10_weakest_39 : decode cX10_weakest 39 = .ok (.aload_n 0, 1) := by decide +kernel
theorem dX10_weakest_40 : decode cX10_weakest 40 = .ok (.getfield 60, 3) := by decide +kernel
theorem dX10_weakest_43 : decode cX10_weakest 43 = .ok (.getfield 155, 3) := by decide +kernel
theorem dX10_weakest_46 : decode cX10_weakest 46 = .ok (.if_icmp .eq 70, 3) := by decide +kernel
theorem dX10_weakest_49 : decode cX10_weakest 49 = .ok (.iload_n 3, 1) := by decide +kernel
theorem dX10_weakest_50 : decode cX10_weakest 50 = .ok (.aload_n 0, 1) := by decide +kernel
theorem dX10_weakest_51 : decode cX10_weakest 51 = .ok (.getfield 23, 3) := by decide +kernel
theorem dX10_weakest_54 : decode cX10_weakest 54 = .ok (.invokevirtual 205, 3) := by decide +kernel
theorem dX10_weakest_57 : decode cX10_weakest 57 = .ok (.if_icmp .ne 6, 3) := by decide +kernel
theorem dX10_weakest_60 : decode cX10_weakest 60 = .ok (.goto 56, 3) := by decide +kernel
theorem dX10_weakest_63 : decode cX10_weakest 63 = .ok (.aload_n 0, 1) := by decide +kernel
theorem dX10_weakest_64 : decode cX10_weakest 64 = .ok (.iload_n 3, 1) := by decide +kernel
theorem dX10_weakest_65 : decode cX10_weakest 65 = .ok (.invokevirtual 309, 3) := by decide +kernel
theorem dX10_weakest_68 : decode cX10_weakest 68 = .ok (.ifCond .ne 6, 3) := by decide +kernel
theorem dX10_weakest_71 : decode cX10_weakest 71 = .ok (.bipush (-2), 2) := by decide +kernel
theorem dX10_weakest_73 : decode cX10_weakest 73 = .ok (.ireturn, 1) := by decide +kernel
theorem dX10_weakest_74 : decode cX10_weakest 74 = .ok (.aload_n 0, 1) := by decide +kernel
theorem dX10_weakest_75 : decode cX10_weakest 75 = .ok (.getfield 80, 3) := by decide +kernel
theorem dX10_weakest_78 : decode cX10_weakest 78 = .ok (.aload_n 0, 1) := by decide +kernel
theorem dX10_weakest_79 : decode cX10_weakest 79 = .ok (.getfield 23, 3) := by decide +kernel
theorem dX10_weakest_82 : decode cX10_weakest 82 = .ok (.iload_n 3, 1) := by decide +kernel
theorem dX10_weakest_83 : decode cX10_weakest 83 = .ok (.aload_n 0, 1) := by decide +kernel
theorem dX10_weakest_84 : decode cX10_weakest 84 = .ok (.getfield 23, 3) := by decide +kernel
theorem dX10_weakest_87 : decode cX10_weakest 87 = .ok (.getfield 151, 3) := by decide +kernel
theorem dX10_weakest_90 : decode cX10_weakest 90 = .ok (.invokevirtual 312, 3) := by decide +kernel
theorem dX10_weakest_93 : decode cX10_weakest 93 = .ok (.aload_n 0, 1) := by decide +kernel
theorem dX10_weakest_94 : decode cX10_weakest 94 = .ok (.getfield 80, 3) := by decide +kernel
theorem dX10_weakest_97 : decode cX10_weakest 97 = .ok (.aload_n 0, 1) := by decide +kernel
theorem dX10_weakest_98 : decode cX10_weakest 98 = .ok (.getfield 60, 3) := by decide +kernel
theorem dX10_weakest_101 : decode cX10_weakest 101 = .ok (.getfield 154, 3) := by decide +kernel
theorem dX10_weakest_104 : decode cX10_weakest 104 = .ok (.invokevirtual 335, 3) := by decide +kernel
theorem dX10_weakest_107 : decode cX10_weakest 107 = .ok (.ifCond .eq 7, 3) := by decide +kernel
theorem dX10_weakest_110 : decode cX10_weakest 110 = .ok (.iload_n 2, 1) := by decide +kernel
theorem dX10_weakest_111 : decode cX10_weakest 111 = .ok (.goto 4, 3) := by decide +kernel
theorem dX10_weakest_114 : decode cX10_weakest 114 = .ok (.iload_n 1, 1) := by decide +kernel
theorem dX10_weakest_115 : decode cX10_weakest 115 = .ok (.istore_n 1, 1) := by decide +kernel
theorem dX10_weakest_116 : decode cX10_weakest 116 = .ok (.iinc 2 (-1), 3) := by decide +kernel
theorem dX10_weakest_119 : decode cX10_weakest 119 = .ok (.goto (-97), 3) := by decide +kernel
theorem dX10_weakest_122 : decode cX10_weakest 122 = .ok (.iload_n 1, 1) := by decide +kernel
theorem dX10_weakest_123 : decode cX10_weakest 123 = .ok (.ireturn, 1) := by decide +kernel
theorem dX10_whyNotSaid_0 : decode cX10_whyNotSaid 0 = .ok (.aload_n 0, 1) := by decide +kernel
theorem dX10_whyNotSaid_1 : decode cX10_whyNotSaid 1 = .ok (.getfield 108, 3) := by decide +kernel
theorem dX10_whyNotSaid_4 : decode cX10_whyNotSaid 4 = .ok (.ifCond .ne 5, 3) := by decide +kernel
theorem dX10_whyNotSaid_7 : decode cX10_whyNotSaid 7 = .ok (.iconst 0, 1) := by decide +kernel
theorem dX10_whyNotSaid_8 : decode cX10_whyNotSaid 8 = .ok (.ireturn, 1) := by decide +kernel
theorem dX10_whyNotSaid_9 : decode cX10_whyNotSaid 9 = .ok (.aload_n 0, 1) := by decide +kernel
theorem dX10_whyNotSaid_10 : decode cX10_whyNotSaid 10 = .ok (.iload_n 1, 1) := by decide +kernel
theorem dX10_whyNotSaid_11 : decode cX10_whyNotSaid 11 = .ok (.iload_n 2, 1) := by decide +kernel
theorem dX10_whyNotSaid_12 : decode cX10_whyNotSaid 12 = .ok (.invokevirtual 221, 3) := by decide +kernel
theorem dX10_whyNotSaid_15 : decode cX10_whyNotSaid 15 = .ok (.ifCond .eq 31, 3) := by decide +kernel
theorem dX10_whyNotSaid_18 : decode cX10_whyNotSaid 18 = .ok (.aload_n 0, 1) := by decide +kernel
theorem dX10_whyNotSaid_19 : decode cX10_whyNotSaid 19 = .ok (.iload_n 3, 1) := by decide +kernel
theorem dX10_whyNotSaid_20 : decode cX10_whyNotSaid 20 = .ok (.invokevirtual 217, 3) := by decide +kernel
theorem dX10_whyNotSaid_23 : decode cX10_whyNotSaid 23 = .ok (.ifCond .eq 23, 3) := by decide +kernel
theorem dX10_whyNotSaid_26 : decode cX10_whyNotSaid 26 = .ok (.aload_n 0, 1) := by decide +kernel
theorem dX10_whyNotSaid_27 : decode cX10_whyNotSaid 27 = .ok (.iload 4, 2) := by decide +kernel
theorem dX10_whyNotSaid_29 : decode cX10_whyNotSaid 29 = .ok (.invokevirtual 217, 3) := by decide +kernel
theorem dX10_whyNotSaid_32 : decode cX10_whyNotSaid 32 = .ok (.ifCond .eq 14, 3) := by decide +kernel
theorem dX10_whyNotSaid_35 : decode cX10_whyNotSaid 35 = .ok (.iload 5, 2) := by decide +kernel
theorem dX10_whyNotSaid_37 : decode cX10_whyNotSaid 37 = .ok (.ifCond .lt 9, 3) := by decide +kernel
theorem dX10_whyNotSaid_40 : decode cX10_whyNotSaid 40 = .ok (.iload 5, 2) := by decide +kernel
theorem dX10_whyNotSaid_42 : decode cX10_whyNotSaid 42 = .ok (.iconst 2, 1) := by decide +kernel
theorem dX10_whyNotSaid_43 : decode cX10_whyNotSaid 43 = .ok (.if_icmp .le 5, 3) := by decide +kernel
theorem dX10_whyNotSaid_46 : decode cX10_whyNotSaid 46 = .ok (.iconst 1, 1) := by decide +kernel
theorem dX10_whyNotSaid_47 : decode cX10_whyNotSaid 47 = .ok (.ireturn, 1) := by decide +kernel
theorem dX10_whyNotSaid_48 : decode cX10_whyNotSaid 48 = .ok (.aload_n 0, 1) := by decide +kernel
theorem dX10_whyNotSaid_49 : decode cX10_whyNotSaid 49 = .ok (.getfield 60, 3) := by decide +kernel
theorem dX10_whyNotSaid_52 : decode cX10_whyNotSaid 52 = .ok (.getfield 155, 3) := by decide +kernel
theorem dX10_whyNotSaid_55 : decode cX10_whyNotSaid 55 = .ok (.iload_n 3, 1) := by decide +kernel
theorem dX10_whyNotSaid_56 : decode cX10_whyNotSaid 56 = .ok (.invokestatic 235, 3) := by decide +kernel
theorem dX10_whyNotSaid_59 : decode cX10_whyNotSaid 59 = .ok (.ifCond .ne 5, 3) := by decide +kernel
theorem dX10_whyNotSaid_62 : decode cX10_whyNotSaid 62 = .ok (.iconst 2, 1) := by decide +kernel
theorem dX10_whyNotSaid_63 : decode cX10_whyNotSaid 63 = .ok (.ireturn, 1) := by decide +kernel
theorem dX10_whyNotSaid_64 : decode cX10_whyNotSaid 64 = .ok (.aload_n 0, 1) := by decide +kernel
theorem dX10_whyNotSaid_65 : decode cX10_whyNotSaid 65 = .ok (.iload_n 1, 1) := by decide +kernel
theorem dX10_whyNotSaid_66 : decode cX10_whyNotSaid 66 = .ok (.iload_n 2, 1) := by decide +kernel
theorem dX10_whyNotSaid_67 : decode cX10_whyNotSaid 67 = .ok (.invokevirtual 228, 3) := by decide +kernel
theorem dX10_whyNotSaid_70 : decode cX10_whyNotSaid 70 = .ok (.ifCond .eq 5, 3) := by decide +kernel
theorem dX10_whyNotSaid_73 : decode cX10_whyNotSaid 73 = .ok (.iconst 3, 1) := by decide +kernel
theorem dX10_whyNotSaid_74 : decode cX10_whyNotSaid 74 = .ok (.ireturn, 1) := by decide +kernel
theorem dX10_whyNotSaid_75 : decode cX10_whyNotSaid 75 = .ok (.aload_n 0, 1) := by decide +kernel
theorem dX10_whyNotSaid_76 : decode cX10_whyNotSaid 76 = .ok (.getfield 60, 3) := by decide +kernel
theorem dX10_whyNotSaid_79 : decode cX10_whyNotSaid 79 = .ok (.getfield 173, 3) := by decide +kernel
theorem dX10_whyNotSaid_82 : decode cX10_whyNotSaid 82 = .ok (.bipush 30, 2) := by decide +kernel
theorem dX10_whyNotSaid_84 : decode cX10_whyNotSaid 84 = .ok (.if_icmp .lt 7, 3) := by decide +kernel
theorem dX10_whyNotSaid_87 : decode cX10_whyNotSaid 87 = .ok (.iconst 4, 1) := by decide +kernel
theorem dX10_whyNotSaid_88 : decode cX10_whyNotSaid 88 = .ok (.goto 4, 3) := by decide +kernel
theorem dX10_whyNotSaid_91 : decode cX10_whyNotSaid 91 = .ok (.iconst (-1), 1) := by decide +kernel
theorem dX10_whyNotSaid_92 : decode cX10_whyNotSaid 92 = .ok (.ireturn, 1) := by decide +kernel
theorem dX10_whyNotTold_0 : decode cX10_whyNotTold 0 = .ok (.aload_n 0, 1) := by decide +kernel
theorem dX10_whyNotTold_1 : decode cX10_whyNotTold 1 = .ok (.getfield 108, 3) := by decide +kernel
theorem dX10_whyNotTold_4 : decode cX10_whyNotTold 4 = .ok (.ifCond .ne 5, 3) := by decide +kernel
theorem dX10_whyNotTold_7 : decode cX10_whyNotTold 7 = .ok (.iconst 0, 1) := by decide +kernel
theorem dX10_whyNotTold_8 : decode cX10_whyNotTold 8 = .ok (.ireturn, 1) := by decide +kernel
theorem dX10_whyNotTold_9 : decode cX10_whyNotTold 9 = .ok (.iload_n 1, 1) := by decide +kernel
theorem dX10_whyNotTold_10 : decode cX10_whyNotTold 10 = .ok (.ifCond .lt 8, 3) := by decide +kernel
theorem dX10_whyNotTold_13 : decode cX10_whyNotTold 13 = .ok (.iload_n 1, 1) := by decide +kernel
theorem dX10_whyNotTold_14 : decode cX10_whyNotTold 14 = .ok (.iload_n 2, 1) := by decide +kernel
theorem dX10_whyNotTold_15 : decode cX10_whyNotTold 15 = .ok (.if_icmp .le 5, 3) := by decide +kernel
theorem dX10_whyNotTold_18 : decode cX10_whyNotTold 18 = .ok (.iconst 1, 1) := by decide +kernel
theorem dX10_whyNotTold_19 : decode cX10_whyNotTold 19 = .ok (.ireturn, 1) := by decide +kernel
theorem dX10_whyNotTold_20 : decode cX10_whyNotTold 20 = .ok (.aload_n 0, 1) := by decide +kernel
theorem dX10_whyNotTold_21 : decode cX10_whyNotTold 21 = .ok (.getfield 60, 3) := by decide +kernel
theorem dX10_whyNotTold_24 : decode cX10_whyNotTold 24 = .ok (.getfield 159, 3) := by decide +kernel
theorem dX10_whyNotTold_27 : decode cX10_whyNotTold 27 = .ok (.ifCond .le 7, 3) := by decide +kernel
theorem dX10_whyNotTold_30 : decode cX10_whyNotTold 30 = .ok (.iconst 3, 1) := by decide +kernel
theorem dX10_whyNotTold_31 : decode cX10_whyNotTold 31 = .ok (.goto 4, 3) := by decide +kernel
theorem dX10_whyNotTold_34 : decode cX10_whyNotTold 34 = .ok (.iconst (-1), 1) := by decide +kernel
theorem dX10_whyNotTold_35 : decode cX10_whyNotTold 35 = .ok (.ireturn, 1) := by decide +kernel
theorem dX11_agreed_0 : decode cX11_agreed 0 = .ok (.aload_n 0, 1) := by decide +kernel
theorem dX11_agreed_1 : decode cX11_agreed 1 = .ok (.iconst 0, 1) := by decide +kernel
theorem dX11_agreed_2 : decode cX11_agreed 2 = .ok (.putfield 80, 3) := by decide +kernel
theorem dX11_agreed_5 : decode cX11_agreed 5 = .ok (.aload_n 0, 1) := by decide +kernel
theorem dX11_agreed_6 : decode cX11_agreed 6 = .ok (.invokevirtual 358, 3) := by decide +kernel
theorem dX11_agreed_9 : decode cX11_agreed 9 = .ok (.istore_n 1, 1) := by decide +kernel
theorem dX11_agreed_10 : decode cX11_agreed 10 = .ok (.iload_n 1, 1) := by decide +kernel
theorem dX11_agreed_11 : decode cX11_agreed 11 = .ok (.ifCond .le 19, 3) := by decide +kernel
theorem dX11_agreed_14 : decode cX11_agreed 14 = .ok (.aload_n 0, 1) := by decide +kernel
theorem dX11_agreed_15 : decode cX11_agreed 15 = .ok (.iload_n 1, 1) := by decide +kernel
theorem dX11_agreed_16 : decode cX11_agreed 16 = .ok (.iconst 1, 1) := by decide +kernel
theorem dX11_agreed_17 : decode cX11_agreed 17 = .ok (.isub, 1) := by decide +kernel
theorem dX11_agreed_18 : decode cX11_agreed 18 = .ok (.invokevirtual 369, 3) := by decide +kernel
theorem dX11_agreed_21 : decode cX11_agreed 21 = .ok (.ifCond .eq 9, 3) := by decide +kernel
theorem dX11_agreed_24 : decode cX11_agreed 24 = .ok (.iinc 1 (-1), 3) := by decide +kernel
theorem dX11_agreed_27 : decode cX11_agreed 27 = .ok (.goto (-17), 3) := by decide +kernel
theorem dX11_agreed_30 : decode cX11_agreed 30 = .ok (.iload_n 1, 1) := by decide +kernel
theorem dX11_agreed_31 : decode cX11_agreed 31 = .ok (.aload_n 0, 1) := by decide +kernel
theorem dX11_agreed_32 : decode cX11_agreed 32 = .ok (.invokevirtual 358, 3) := by decide +kernel
theorem dX11_agreed_35 : decode cX11_agreed 35 = .ok (.if_icmp .ge 7, 3) := by decide +kernel
theorem dX11_agreed_38 : decode cX11_agreed 38 = .ok (.iload_n 1, 1) := by decide +kernel
theorem dX11_agreed_39 : decode cX11_agreed 39 = .ok (.goto 4, 3) := by decide +kernel
theorem dX11_agreed_42 : decode cX11_agreed 42 = .ok (.iconst (-1), 1) := by decide +kernel
theorem dX11_agreed_43 : decode cX11_agreed 43 = .ok (.ireturn, 1) := by decide +kernel
theorem dX11_asOthers_0 : decode cX11_asOthers 0 = .ok (.aload_n 0, 1) := by decide +kernel
theorem dX11_asOthers_1 : decode cX11_asOthers 1 = .ok (.iconst 0, 1) := by decide +kernel
theorem dX11_asOthers_2 : decode cX11_asOthers 2 = .ok (.putfield 80, 3) := by decide +kernel
theorem dX11_asOthers_5 : decode cX11_asOthers 5 = .ok (.aload_n 0, 1) := by decide +kernel
theorem dX11_asOthers_6 : decode cX11_asOthers 6 = .ok (.getfield 232, 3) := by decide +kernel
theorem dX11_asOthers_9 : decode cX11_asOthers 9 = .ok (.ifCond .eq 15, 3) := by decide +kernel
theorem dX11_asOthers_12 : decode cX11_asOthers 12 = .ok (.iload_n 1, 1) := by decide +kernel
theorem dX11_asOthers_13 : decode cX11_asOthers 13 = .ok (.i2l, 1) := by decide +kernel
theorem dX11_asOthers_14 : decode cX11_asOthers 14 = .ok (.lconst 0, 1) := by decide +kernel
theorem dX11_asOthers_15 : decode cX11_asOthers 15 = .ok (.ldc2_w 267, 3) := by decide +kernel
theorem dX11_asOthers_18 : decode cX11_asOthers 18 = .ok (.invokestatic 132, 3) := by decide +kernel
theorem dX11_asOthers_21 : decode cX11_asOthers 21 = .ok (.ifCond .ne 6, 3) := by decide +kernel
theorem dX11_asOthers_24 : decode cX11_asOthers 24 = .ok (.bipush (-2), 2) := by decide +kernel
theorem dX11_asOthers_26 : decode cX11_asOthers 26 = .ok (.ireturn, 1) := by decide +kernel
theorem dX11_asOthers_27 : decode cX11_asOthers 27 = .ok (.aload_n 0, 1) := by decide +kernel
theorem dX11_asOthers_28 : decode cX11_asOthers 28 = .ok (.invokevirtual 329, 3) := by decide +kernel
theorem dX11_asOthers_31 : decode cX11_asOthers 31 = .ok (.aload_n 0, 1) := by decide +kernel
theorem dX11_asOthers_32 : decode cX11_asOthers 32 = .ok (.getfield 212, 3) := by decide +kernel
theorem dX11_asOthers_35 : decode cX11_asOthers 35 = .ok (.istore_n 2, 1) := by decide +kernel
theorem dX11_asOthers_36 : decode cX11_asOthers 36 = .ok (.aload_n 0, 1) := by decide +kernel
theorem dX11_asOthers_37 : decode cX11_asOthers 37 = .ok (.iconst 1, 1) := by decide +kernel
theorem dX11_asOthers_38 : decode cX11_asOthers 38 = .ok (.aload_n 0, 1) := by decide +kernel
theorem dX11_asOthers_39 : decode cX11_asOthers 39 = .ok (.getfield 212, 3) := by decide +kernel
theorem dX11_asOthers_42 : decode cX11_asOthers 42 = .ok (.isub, 1) := by decide +kernel
theorem dX11_asOthers_43 : decode cX11_asOthers 43 = .ok (.putfield 212, 3) := by decide +kernel
theorem dX11_asOthers_46 : decode cX11_asOthers 46 = .ok (.aload_n 0, 1) := by decide +kernel
theorem dX11_asOthers_47 : decode cX11_asOthers 47 = .ok (.iconst 0, 1) := by decide +kernel
theorem dX11_asOthers_48 : decode cX11_asOthers 48 = .ok (.putfield 236, 3) := by decide +kernel
theorem dX11_asOthers_51 : decode cX11_asOthers 51 = .ok (.aload_n 0, 1) := by decide +kernel
theorem dX11_asOthers_52 : decode cX11_asOthers 52 = .ok (.iconst 0, 1) := by decide +kernel
theorem dX11_asOthers_53 : decode cX11_asOthers 53 = .ok (.putfield 277, 3) := by decide +kernel
theorem dX11_asOthers_56 : decode cX11_asOthers 56 = .ok (.aload_n 0, 1) := by decide +kernel
theorem dX11_asOthers_57 : decode cX11_asOthers 57 = .ok (.invokevirtual 314, 3) := by decide +kernel
theorem dX11_asOthers_60 : decode cX11_asOthers 60 = .ok (.iconst (-1), 1) := by decide +kernel
theorem dX11_asOthers_61 : decode cX11_asOthers 61 = .ok (.istore_n 3, 1) := by decide +kernel
theorem dX11_asOthers_62 : decode cX11_asOthers 62 = .ok (.iconst 0, 1) := by decide +kernel
theorem dX11_asOthers_63 : decode cX11_asOthers 63 = .ok (.istore 4, 2) := by decide +kernel
theorem dX11_asOthers_65 : decode cX11_asOthers 65 = .ok (.iload 4, 2) := by decide +kernel
theorem dX11_asOthers_67 : decode cX11_asOthers 67 = .ok (.aload_n 0, 1) := by decide +kernel
theorem dX11_asOthers_68 : decode cX11_asOthers 68 = .ok (.getfield 220, 3) := by decide +kernel
theorem dX11_asOthers_71 : decode cX11_asOthers 71 = .ok (.if_icmp .ge 54, 3) := by decide +kernel
theorem dX11_asOthers_74 : decode cX11_asOthers 74 = .ok (.iconst 0, 1) := by decide +kernel
theorem dX11_asOthers_75 : decode cX11_asOthers 75 = .ok (.istore 5, 2) := by decide +kernel
theorem dX11_asOthers_77 : decode cX11_asOthers 77 = .ok (.iload 5, 2) := by decide +kernel
theorem dX11_asOthers_79 : decode cX11_asOthers 79 = .ok (.aload_n 0, 1) := by decide +kernel
theorem dX11_asOthers_80 : decode cX11_asOthers 80 = .ok (.invokevirtual 287, 3) := by decide +kernel
theorem dX11_asOthers_83 : decode cX11_asOthers 83 = .ok (.if_icmp .ge 13, 3) := by decide +kernel
theorem dX11_asOthers_86 : decode cX11_asOthers 86 = .ok (.aload_n 0, 1) := by decide +kernel
theorem dX11_asOthers_87 : decode cX11_asOthers 87 = .ok (.invokevirtual 317, 3) := by decide +kernel
theorem dX11_asOthers_90 : decode cX11_asOthers 90 = .ok (.iinc 5 1, 3) := by decide +kernel
theorem dX11_asOthers_93 : decode cX11_asOthers 93 = .ok (.goto (-16), 3) := by decide +kernel
theorem dX11_asOthers_96 : decode cX11_asOthers 96 = .ok (.aload_n 0, 1) := by decide +kernel
theorem dX11_asOthers_97 : decode cX11_asOthers 97 = .ok (.invokevirtual 392, 3) := by decide +kernel
theorem dX11_asOthers_100 : decode cX11_asOthers 100 = .ok (.ifCond .ne 7, 3) := by decide +kernel
theorem dX11_asOthers_103 : decode cX11_asOthers 103 = .ok (.iconst (-1), 1) := by decide +kernel
theorem dX11_asOthers_104 : decode cX11_asOthers 104 = .ok (.goto 14, 3) := by decide +kernel
theorem dX11_asOthers_107 : decode cX11_asOthers 107 = .ok (.iload_n 3, 1) := by decide +kernel
theorem dX11_asOthers_108 : decode cX11_asOthers 108 = .ok (.iconst (-1), 1) := by decide +kernel
theorem dX11_asOthers_109 : decode cX11_asOthers 109 = .ok (.if_icmp .ne 8, 3) := by decide +kernel
theorem dX11_asOthers_112 : decode cX11_asOthers 112 = .ok (.iload 4, 2) := by decide +kernel
theorem dX11_asOthers_114 : decode cX11_asOthers 114 = .ok (.goto 4, 3) := by decide +kernel
theorem dX11_asOthers_117 : decode cX11_asOthers 117 = .ok (.iload_n 3, 1) := by decide +kernel
theorem dX11_asOthers_118 : decode cX11_asOthers 118 = .ok (.istore_n 3, 1) := by decide +kernel
theorem dX11_asOthers_119 : decode cX11_asOthers 119 = .ok (.iinc 4 1, 3) := by decide +kernel
theorem dX11_asOthers_122 : decode cX11_asOthers 122 = .ok (.goto (-57), 3) := by decide +kernel
theorem dX11_asOthers_125 : decode cX11_asOthers 125 = .ok (.aload_n 0, 1) := by decide +kernel
theorem dX11_asOthers_126 : decode cX11_asOthers 126 = .ok (.aload_n 0, 1) := by decide +kernel
theorem dX11_asOthers_127 : decode cX11_asOthers 127 = .ok (.getfield 212, 3) := by decide +kernel
theorem dX11_asOthers_130 : decode cX11_asOthers 130 = .ok (.invokevirtual 378, 3) := by decide +kernel
theorem dX11_asOthers_133 : decode cX11_asOthers 133 = .ok (.istore 4, 2) := by decide +kernel
theorem dX11_asOthers_135 : decode cX11_asOthers 135 = .ok (.aload_n 0, 1) := by decide +kernel
theorem dX11_asOthers_136 : decode cX11_asOthers 136 = .ok (.iload_n 2, 1) := by decide +kernel
theorem dX11_asOthers_137 : decode cX11_asOthers 137 = .ok (.putfield 212, 3) := by decide +kernel
theorem dX11_asOthers_140 : decode cX11_asOthers 140 = .ok (.iload_n 1, 1) := by decide +kernel
theorem dX11_asOthers_141 : decode cX11_asOthers 141 = .ok (.ifCond .ne 7, 3) := by decide +kernel
theorem dX11_asOthers_144 : decode cX11_asOthers 144 = .ok (.iload_n 3, 1) := by decide +kernel
theorem dX11_asOthers_145 : decode cX11_asOthers 145 = .ok (.goto 29, 3) := by decide +kernel
theorem dX11_asOthers_148 : decode cX11_asOthers 148 = .ok (.iload_n 1, 1) := by decide +kernel
theorem dX11_asOthers_149 : decode cX11_asOthers 149 = .ok (.iconst 1, 1) := by decide +kernel
theorem dX11_asOthers_150 : decode cX11_asOthers 150 = .ok (.if_icmp .ne 10, 3) := by decide +kernel
theorem dX11_asOthers_153 : decode cX11_asOthers 153 = .ok (.aload_n 0, 1) := by decide +kernel
theorem dX11_asOthers_154 : decode cX11_asOthers 154 = .ok (.getfield 254, 3) := by decide +kernel
theorem dX11_asOthers_157 : decode cX11_asOthers 157 = .ok (.goto 17, 3) := by decide +kernel
theorem dX11_asOthers_160 : decode cX11_asOthers 160 = .ok (.iload_n 1, 1) := by decide +kernel
theorem dX11_asOthers_161 : decode cX11_asOthers 161 = .ok (.iconst 2, 1) := by decide +kernel
theorem dX11_asOthers_162 : decode cX11_asOthers 162 = .ok (.if_icmp .ne 10, 3) := by decide +kernel
theorem dX11_asOthers_165 : decode cX11_asOthers 165 = .ok (.aload_n 0, 1) := by decide +kernel
theorem dX11_asOthers_166 : decode cX11_asOthers 166 = .ok (.invokevirtual 443, 3) := by decide +kernel
theorem dX11_asOthers_169 : decode cX11_asOthers 169 = .ok (.goto 5, 3) := by decide +kernel
theorem dX11_asOthers_172 : decode cX11_asOthers 172 = .ok (.iload 4, 2) := by decide +kernel
theorem dX11_asOthers_174 : decode cX11_asOthers 174 = .ok (.ireturn, 1) := by decide +kernel
theorem dX11_back_0 : decode cX11_back 0 = .ok (.aload_n 0, 1) := by decide +kernel
theorem dX11_back_1 : decode cX11_back 1 = .ok (.iconst 0, 1) := by decide +kernel
theorem dX11_back_2 : decode cX11_back 2 = .ok (.putfield 80, 3) := by decide +kernel
theorem dX11_back_5 : decode cX11_back 5 = .ok (.aload_n 0, 1) := by decide +kernel
theorem dX11_back_6 : decode cX11_back 6 = .ok (.getfield 242, 3) := by decide +kernel
theorem dX11_back_9 : decode cX11_back 9 = .ok (.ifCond .ne 5, 3) := by decide +kernel
theorem dX11_back_12 : decode cX11_back 12 = .ok (.iconst (-1), 1) := by decide +kernel
theorem dX11_back_13 : decode cX11_back 13 = .ok (.ireturn, 1) := by decide +kernel
theorem dX11_back_14 : decode cX11_back 14 = .ok (.iconst 0, 1) := by decide +kernel
theorem dX11_back_15 : decode cX11_back 15 = .ok (.istore_n 1, 1) := by decide +kernel
theorem dX11_back_16 : decode cX11_back 16 = .ok (.iload_n 1, 1) := by decide +kernel
theorem dX11_back_17 : decode cX11_back 17 = .ok (.sipush 2126, 3) := by decide +kernel
theorem dX11_back_20 : decode cX11_back 20 = .ok (.if_icmp .ge 21, 3) := by decide +kernel
theorem dX11_back_23 : decode cX11_back 23 = .ok (.aload_n 0, 1) := by decide +kernel
theorem dX11_back_24 : decode cX11_back 24 = .ok (.getfield 57, 3) := by decide +kernel
theorem dX11_back_27 : decode cX11_back 27 = .ok (.iload_n 1, 1) := by decide +kernel
theorem dX11_back_28 : decode cX11_back 28 = .ok (.aload_n 0, 1) := by decide +kernel
theorem dX11_back_29 : decode cX11_back 29 = .ok (.getfield 60, 3) := by decide +kernel
theorem dX11_back_32 : decode cX11_back 32 = .ok (.iload_n 1, 1) := by decide +kernel
theorem dX11_back_33 : decode cX11_back 33 = .ok (.iaload, 1) := by decide +kernel
theorem dX11_back_34 : decode cX11_back 34 = .ok (.iastore, 1) := by decide +kernel
theorem dX11_back_35 : decode cX11_back 35 = .ok (.iinc 1 1, 3) := by decide +kernel
theorem dX11_back_38 : decode cX11_back 38 = .ok (.goto (-22), 3) := by decide +kernel
theorem dX11_back_41 : decode cX11_back 41 = .ok (.aload_n 0, 1) := by decide +kernel
theorem dX11_back_42 : decode cX11_back 42 = .ok (.aload_n 0, 1) := by decide +kernel
theorem dX11_back_43 : decode cX11_back 43 = .ok (.getfield 352, 3) := by decide +kernel
theorem dX11_back_46 : decode cX11_back 46 = .ok (.putfield 320, 3) := by decide +kernel
theorem dX11_back_49 : decode cX11_back 49 = .ok (.aload_n 0, 1) := by decide +kernel
theorem dX11_back_50 : decode cX11_back 50 = .ok (.iconst 0, 1) := by decide +kernel
theorem dX11_back_51 : decode cX11_back 51 = .ok (.putfield 239, 3) := by decide +kernel
theorem dX11_back_54 : decode cX11_back 54 = .ok (.aload_n 0, 1) := by decide +kernel
theorem dX11_back_55 : decode cX11_back 55 = .ok (.getfield 57, 3) := by decide +kernel
theorem dX11_back_58 : decode cX11_back 58 = .ok (.bipush 72, 2) := by decide +kernel
theorem dX11_back_60 : decode cX11_back 60 = .ok (.iaload, 1) := by decide +kernel
theorem dX11_back_61 : decode cX11_back 61 = .ok (.ireturn, 1) := by decide +kernel
theorem dX11_broken_0 : decode cX11_broken 0 = .ok (.aload_n 0, 1) := by decide +kernel
theorem dX11_broken_1 : decode cX11_broken 1 = .ok (.iconst 0, 1) := by decide +kernel
theorem dX11_broken_2 : decode cX11_broken 2 = .ok (.putfield 80, 3) := by decide +kernel
theorem dX11_broken_5 : decode cX11_broken 5 = .ok (.aload_n 0, 1) := by decide +kernel
theorem dX11_broken_6 : decode cX11_broken 6 = .ok (.invokevirtual 396, 3) := by decide +kernel
theorem dX11_broken_9 : decode cX11_broken 9 = .ok (.ifCond .eq 10, 3) := by decide +kernel
theorem dX11_broken_12 : decode cX11_broken 12 = .ok (.aload_n 0, 1) := by decide +kernel
theorem dX11_broken_13 : decode cX11_broken 13 = .ok (.invokevirtual 399, 3) := by decide +kernel
theorem dX11_broken_16 : decode cX11_broken 16 = .ok (.goto 5, 3) := by decide +kernel
theorem dX11_broken_19 : decode cX11_broken 19 = .ok (.bipush (-2), 2) := by decide +kernel
theorem dX11_broken_21 : decode cX11_broken 21 = .ok (.ireturn, 1) := by decide +kernel
theorem dX11_brokenPlan_0 : decode cX11_brokenPlan 0 = .ok (.aload_n 0, 1) := by decide +kernel
theorem dX11_brokenPlan_1 : decode cX11_brokenPlan 1 = .ok (.iconst 0, 1) := by decide +kernel
theorem dX11_brokenPlan_2 : decode cX11_brokenPlan 2 = .ok (.putfield 80, 3) := by decide +kernel
theorem dX11_brokenPlan_5 : decode cX11_brokenPlan 5 = .ok (.aload_n 0, 1) := by decide +kernel
theorem dX11_brokenPlan_6 : decode cX11_brokenPlan 6 = .ok (.invokevirtual 396, 3) := by decide +kernel
theorem dX11_brokenPlan_9 : decode cX11_brokenPlan 9 = .ok (.ifCond .ne 6, 3) := by decide +kernel
theorem dX11_brokenPlan_12 : decode cX11_brokenPlan 12 = .ok (.bipush (-2), 2) := by decide +kernel
theorem dX11_brokenPlan_14 : decode cX11_brokenPlan 14 = .ok (.ireturn, 1) := by decide +kernel
theorem dX11_brokenPlan_15 : decode cX11_brokenPlan 15 = .ok (.aload_n 0, 1) := by decide +kernel
theorem dX11_brokenPlan_16 : decode cX11_brokenPlan 16 = .ok (.invokevirtual 399, 3) := by decide +kernel
theorem dX11_brokenPlan_19 : decode cX11_brokenPlan 19 = .ok (.istore_n 2, 1) := by decide +kernel
theorem dX11_brokenPlan_20 : decode cX11_brokenPlan 20 = .ok (.iload_n 2, 1) := by decide +kernel
theorem dX11_brokenPlan_21 : decode cX11_brokenPlan 21 = .ok (.iconst (-1), 1) := by decide +kernel
theorem dX11_brokenPlan_22 : decode cX11_brokenPlan 22 = .ok (.if_icmp .ne 5, 3) := by decide +kernel
theorem dX11_brokenPlan_25 : decode cX11_brokenPlan 25 = .ok (.iconst (-1), 1) := by decide +kernel
theorem dX11_brokenPlan_26 : decode cX11_brokenPlan 26 = .ok (.ireturn, 1) := by decide +kernel
theorem dX11_brokenPlan_27 : decode cX11_brokenPlan 27 = .ok (.aload_n 0, 1) := by decide +kernel
theorem dX11_brokenPlan_28 : decode cX11_brokenPlan 28 = .ok (.iload_n 2, 1) := by decide +kernel
theorem dX11_brokenPlan_29 : decode cX11_brokenPlan 29 = .ok (.invokevirtual 436, 3) := by decide +kernel
theorem dX11_brokenPlan_32 : decode cX11_brokenPlan 32 = .ok (.iload_n 1, 1) := by decide +kernel
theorem dX11_brokenPlan_33 : decode cX11_brokenPlan 33 = .ok (.iconst (-1), 1) := by decide +kernel
theorem dX11_brokenPlan_34 : decode cX11_brokenPlan 34 = .ok (.if_icmp .ne 10, 3) := by decide +kernel
theorem dX11_brokenPlan_37 : decode cX11_brokenPlan 37 = .ok (.aload_n 0, 1) := by decide +kernel
theorem dX11_brokenPlan_38 : decode cX11_brokenPlan 38 = .ok (.getfield 414, 3) := by decide +kernel
theorem dX11_brokenPlan_41 : decode cX11_brokenPlan 41 = .ok (.goto 29, 3) := by decide +kernel
theorem dX11_brokenPlan_44 : decode cX11_brokenPlan 44 = .ok (.iload_n 1, 1) := by decide +kernel
theorem dX11_brokenPlan_45 : decode cX11_brokenPlan 45 = .ok (.i2l, 1) := by decide +kernel
theorem dX11_brokenPlan_46 : decode cX11_brokenPlan 46 = .ok (.lconst 0, 1) := by decide +kernel
theorem dX11_brokenPlan_47 : decode cX11_brokenPlan 47 = .ok (.aload_n 0, 1) := by decide +kernel
theorem dX11_brokenPlan_48 : decode cX11_brokenPlan 48 = .ok (.getfield 414, 3) := by decide +kernel
theorem dX11_brokenPlan_51 : decode cX11_brokenPlan 51 = .ok (.iconst 1, 1) := by decide +kernel
theorem dX11_brokenPlan_52 : decode cX11_brokenPlan 52 = .ok (.isub, 1) := by decide +kernel
theorem dX11_brokenPlan_53 : decode cX11_brokenPlan 53 = .ok (.i2l, 1) := by decide +kernel
theorem dX11_brokenPlan_54 : decode cX11_brokenPlan 54 = .ok (.invokestatic 132, 3) := by decide +kernel
theorem dX11_brokenPlan_57 : decode cX11_brokenPlan 57 = .ok (.ifCond .eq 12, 3) := by decide +kernel
theorem dX11_brokenPlan_60 : decode cX11_brokenPlan 60 = .ok (.aload_n 0, 1) := by decide +kernel
theorem dX11_brokenPlan_61 : decode cX11_brokenPlan 61 = .ok (.getfield 74, 3) := by decide +kernel
theorem dX11_brokenPlan_64 : decode cX11_brokenPlan 64 = .ok (.iload_n 1, 1) := by decide +kernel
theorem dX11_brokenPlan_65 : decode cX11_brokenPlan 65 = .ok (.iaload, 1) := by decide +kernel
theorem dX11_brokenPlan_66 : decode cX11_brokenPlan 66 = .ok (.goto 4, 3) := by decide +kernel
theorem dX11_brokenPlan_69 : decode cX11_brokenPlan 69 = .ok (.iconst (-1), 1) := by decide +kernel
theorem dX11_brokenPlan_70 : decode cX11_brokenPlan 70 = .ok (.ireturn, 1) := by decide +kernel
theorem dX11_brokenStarts_0 : decode cX11_brokenStarts 0 = .ok (.aload_n 0, 1) := by decide +kernel
theorem dX11_brokenStarts_1 : decode cX11_brokenStarts 1 = .ok (.iconst 0, 1) := by decide +kernel
theorem dX11_brokenStarts_2 : decode cX11_brokenStarts 2 = .ok (.putfield 80, 3) := by decide +kernel
theorem dX11_brokenStarts_5 : decode cX11_brokenStarts 5 = .ok (.iload_n 1, 1) := by decide +kernel
theorem dX11_brokenStarts_6 : decode cX11_brokenStarts 6 = .ok (.i2l, 1) := by decide +kernel
theorem dX11_brokenStarts_7 : decode cX11_brokenStarts 7 = .ok (.lconst 0, 1) := by decide +kernel
theorem dX11_brokenStarts_8 : decode cX11_brokenStarts 8 = .ok (.lconst 1, 1) := by decide +kernel
theorem dX11_brokenStarts_9 : decode cX11_brokenStarts 9 = .ok (.invokestatic 132, 3) := by decide +kernel
theorem dX11_brokenStarts_12 : decode cX11_brokenStarts 12 = .ok (.ifCond .eq 10, 3) := by decide +kernel
theorem dX11_brokenStarts_15 : decode cX11_brokenStarts 15 = .ok (.aload_n 0, 1) := by decide +kernel
theorem dX11_brokenStarts_16 : decode cX11_brokenStarts 16 = .ok (.invokevirtual 396, 3) := by decide +kernel
theorem dX11_brokenStarts_19 : decode cX11_brokenStarts 19 = .ok (.ifCond .ne 6, 3) := by decide +kernel
theorem dX11_brokenStarts_22 : decode cX11_brokenStarts 22 = .ok (.bipush (-2), 2) := by decide +kernel
theorem dX11_brokenStarts_24 : decode cX11_brokenStarts 24 = .ok (.ireturn, 1) := by decide +kernel
theorem dX11_brokenStarts_25 : decode cX11_brokenStarts 25 = .ok (.aload_n 0, 1) := by decide +kernel
theorem dX11_brokenStarts_26 : decode cX11_brokenStarts 26 = .ok (.invokevirtual 408, 3) := by decide +kernel
theorem dX11_brokenStarts_29 : decode cX11_brokenStarts 29 = .ok (.iload_n 1, 1) := by decide +kernel
theorem dX11_brokenStarts_30 : decode cX11_brokenStarts 30 = .ok (.ifCond .ne 10, 3) := by decide +kernel
theorem dX11_brokenStarts_33 : decode cX11_brokenStarts 33 = .ok (.aload_n 0, 1) := by decide +kernel
theorem dX11_brokenStarts_34 : decode cX11_brokenStarts 34 = .ok (.getfield 402, 3) := by decide +kernel
theorem dX11_brokenStarts_37 : decode cX11_brokenStarts 37 = .ok (.goto 7, 3) := by decide +kernel
theorem dX11_brokenStarts_40 : decode cX11_brokenStarts 40 = .ok (.aload_n 0, 1) := by decide +kernel
theorem dX11_brokenStarts_41 : decode cX11_brokenStarts 41 = .ok (.getfield 405, 3) := by decide +kernel
theorem dX11_brokenStarts_44 : decode cX11_brokenStarts 44 = .ok (.ireturn, 1) := by decide +kernel
theorem dX11_byChance_0 : decode cX11_byChance 0 = .ok (.aload_n 0, 1) := by decide +kernel
theorem dX11_byChance_1 : decode cX11_byChance 1 = .ok (.iconst 0, 1) := by decide +kernel
theorem dX11_byChance_2 : decode cX11_byChance 2 = .ok (.putfield 80, 3) := by decide +kernel
theorem dX11_byChance_5 : decode cX11_byChance 5 = .ok (.aload_n 0, 1) := by decide +kernel
theorem dX11_byChance_6 : decode cX11_byChance 6 = .ok (.getfield 232, 3) := by decide +kernel
theorem dX11_byChance_9 : decode cX11_byChance 9 = .ok (.ifCond .eq 28, 3) := by decide +kernel
theorem dX11_byChance_12 : decode cX11_byChance 12 = .ok (.iload_n 1, 1) := by decide +kernel
theorem dX11_byChance_13 : decode cX11_byChance 13 = .ok (.i2l, 1) := by decide +kernel
theorem dX11_byChance_14 : decode cX11_byChance 14 = .ok (.lconst 1, 1) := by decide +kernel
theorem dX11_byChance_15 : decode cX11_byChance 15 = .ok (.ldc2_w 446, 3) := by decide +kernel
theorem dX11_byChance_18 : decode cX11_byChance 18 = .ok (.invokestatic 132, 3) := by decide +kernel
theorem dX11_byChance_21 : decode cX11_byChance 21 = .ok (.ifCond .eq 16, 3) := by decide +kernel
theorem dX11_byChance_24 : decode cX11_byChance 24 = .ok (.iload 4, 2) := by decide +kernel
theorem dX11_byChance_26 : decode cX11_byChance 26 = .ok (.i2l, 1) := by decide +kernel
theorem dX11_byChance_27 : decode cX11_byChance 27 = .ok (.lconst 0, 1) := by decide +kernel
theorem dX11_byChance_28 : decode cX11_byChance 28 = .ok (.ldc2_w 267, 3) := by decide +kernel
theorem dX11_byChance_31 : decode cX11_byChance 31 = .ok (.invokestatic 132, 3) := by decide +kernel
theorem dX11_byChance_34 : decode cX11_byChance 34 = .ok (.ifCond .ne 6, 3) := by decide +kernel
theorem dX11_byChance_37 : decode cX11_byChance 37 = .ok (.bipush (-2), 2) := by decide +kernel
theorem dX11_byChance_39 : decode cX11_byChance 39 = .ok (.ireturn, 1) := by decide +kernel
theorem dX11_byChance_40 : decode cX11_byChance 40 = .ok (.aload_n 0, 1) := by decide +kernel
theorem dX11_byChance_41 : decode cX11_byChance 41 = .ok (.invokevirtual 329, 3) := by decide +kernel
theorem dX11_byChance_44 : decode cX11_byChance 44 = .ok (.aload_n 0, 1) := by decide +kernel
theorem dX11_byChance_45 : decode cX11_byChance 45 = .ok (.getfield 228, 3) := by decide +kernel
theorem dX11_byChance_48 : decode cX11_byChance 48 = .ok (.lstore 5, 2) := by decide +kernel
theorem dX11_byChance_50 : decode cX11_byChance 50 = .ok (.iconst 0, 1) := by decide +kernel
theorem dX11_byChance_51 : decode cX11_byChance 51 = .ok (.istore 7, 2) := by decide +kernel
theorem dX11_byChance_53 : decode cX11_byChance 53 = .ok (.iconst 0, 1) := by decide +kernel
theorem dX11_byChance_54 : decode cX11_byChance 54 = .ok (.istore 8, 2) := by decide +kernel
theorem dX11_byChance_56 : decode cX11_byChance 56 = .ok (.iconst (-1), 1) := by decide +kernel
theorem dX11_byChance_57 : decode cX11_byChance 57 = .ok (.istore 9, 2) := by decide +kernel
theorem dX11_byChance_59 : decode cX11_byChance 59 = .ok (.iconst 0, 1) := by decide +kernel
theorem dX11_byChance_60 : decode cX11_byChance 60 = .ok (.istore 10, 2) := by decide +kernel
theorem dX11_byChance_62 : decode cX11_byChance 62 = .ok (.iconst 0, 1) := by decide +kernel
theorem dX11_byChance_63 : decode cX11_byChance 63 = .ok (.istore 11, 2) := by decide +kernel
theorem dX11_byChance_65 : decode cX11_byChance 65 = .ok (.aload_n 0, 1) := by decide +kernel
theorem dX11_byChance_66 : decode cX11_byChance 66 = .ok (.iload 11, 2) := by decide +kernel
theorem dX11_byChance_68 : decode cX11_byChance 68 = .ok (.invokevirtual 274, 3) := by decide +kernel
theorem dX11_byChance_71 : decode cX11_byChance 71 = .ok (.ifCond .eq 9, 3) := by decide +kernel
theorem dX11_byChance_74 : decode cX11_byChance 74 = .ok (.iinc 11 1, 3) := by decide +kernel
theorem dX11_byChance_77 : decode cX11_byChance 77 = .ok (.goto (-12), 3) := by decide +kernel
theorem dX11_byChance_80 : decode cX11_byChance 80 = .ok (.iconst 0, 1) := by decide +kernel
theorem dX11_byChance_81 : decode cX11_byChance 81 = .ok (.istore 12, 2) := by decide +kernel
theorem dX11_byChance_83 : decode cX11_byChance 83 = .ok (.iload 12, 2) := by decide +kernel
theorem dX11_byChance_85 : decode cX11_byChance 85 = .ok (.iload_n 1, 1) := by decide +kernel
theorem dX11_byChance_86 : decode cX11_byChance 86 = .ok (.if_icmp .ge 100, 3) := by decide +kernel
theorem dX11_byChance_89 : decode cX11_byChance 89 = .ok (.aload_n 0, 1) := by decide +kernel
theorem dX11_byChance_90 : decode cX11_byChance 90 = .ok (.lload_n 2, 1) := by decide +kernel
theorem dX11_byChance_91 : decode cX11_byChance 91 = .ok (.iload 12, 2) := by decide +kernel
theorem dX11_byChance_93 : decode cX11_byChance 93 = .ok (.i2l, 1) := by decide +kernel
theorem dX11_byChance_94 : decode cX11_byChance 94 = .ok (.ladd, 1) := by decide +kernel
theorem dX11_byChance_95 : decode cX11_byChance 95 = .ok (.putfield 228, 3) := by decide +kernel
theorem dX11_byChance_98 : decode cX11_byChance 98 = .ok (.aload_n 0, 1) := by decide +kernel
theorem dX11_byChance_99 : decode cX11_byChance 99 = .ok (.iconst 2, 1) := by decide +kernel
theorem dX11_byChance_100 : decode cX11_byChance 100 = .ok (.iconst 0, 1) := by decide +kernel
theorem dX11_byChance_101 : decode cX11_byChance 101 = .ok (.invokevirtual 389, 3) := by decide +kernel
theorem dX11_byChance_104 : decode cX11_byChance 104 = .ok (.aload_n 0, 1) := by decide +kernel
theorem dX11_byChance_105 : decode cX11_byChance 105 = .ok (.invokevirtual 392, 3) := by decide +kernel
theorem dX11_byChance_108 : decode cX11_byChance 108 = .ok (.istore 13, 2) := by decide +kernel
theorem dX11_byChance_110 : decode cX11_byChance 110 = .ok (.iload 7, 2) := by decide +kernel
theorem dX11_byChance_112 : decode cX11_byChance 112 = .ok (.iload 13, 2) := by decide +kernel
theorem dX11_byChance_114 : decode cX11_byChance 114 = .ok (.ifCond .eq 7, 3) := by decide +kernel
theorem dX11_byChance_117 : decode cX11_byChance 117 = .ok (.iconst 1, 1) := by decide +kernel
theorem dX11_byChance_118 : decode cX11_byChance 118 = .ok (.goto 4, 3) := by decide +kernel
theorem dX11_byChance_121 : decode cX11_byChance 121 = .ok (.iconst 0, 1) := by decide +kernel
theorem dX11_byChance_122 : decode cX11_byChance 122 = .ok (.iadd, 1) := by decide +kernel
theorem dX11_byChance_123 : decode cX11_byChance 123 = .ok (.istore 7, 2) := by decide +kernel
theorem dX11_byChance_125 : decode cX11_byChance 125 = .ok (.iload 8, 2) := by decide +kernel
theorem dX11_byChance_127 : decode cX11_byChance 127 = .ok (.aload_n 0, 1) := by decide +kernel
theorem dX11_byChance_128 : decode cX11_byChance 128 = .ok (.getfield 254, 3) := by decide +kernel
theorem dX11_byChance_131 : decode cX11_byChance 131 = .ok (.iadd, 1) := by decide +kernel
theorem dX11_byChance_132 : decode cX11_byChance 132 = .ok (.istore 8, 2) := by decide +kernel
theorem dX11_byChance_134 : decode cX11_byChance 134 = .ok (.iload 13, 2) := by decide +kernel
theorem dX11_byChance_136 : decode cX11_byChance 136 = .ok (.ifCond .ne 14, 3) := by decide +kernel
theorem dX11_byChance_139 : decode cX11_byChance 139 = .ok (.iload 9, 2) := by decide +kernel
theorem dX11_byChance_141 : decode cX11_byChance 141 = .ok (.iconst (-1), 1) := by decide +kernel
theorem dX11_byChance_142 : decode cX11_byChance 142 = .ok (.if_icmp .ne 8, 3) := by decide +kernel
theorem dX11_byChance_145 : decode cX11_byChance 145 = .ok (.iload 12, 2) := by decide +kernel
theorem dX11_byChance_147 : decode cX11_byChance 147 = .ok (.goto 5, 3) := by decide +kernel
theorem dX11_byChance_150 : decode cX11_byChance 150 = .ok (.iload 9, 2) := by decide +kernel
theorem dX11_byChance_152 : decode cX11_byChance 152 = .ok (.istore 9, 2) := by decide +kernel
theorem dX11_byChance_154 : decode cX11_byChance 154 = .ok (.iload 10, 2) := by decide +kernel
theorem dX11_byChance_156 : decode cX11_byChance 156 = .ok (.iload 13, 2) := by decide +kernel
theorem dX11_byChance_158 : decode cX11_byChance 158 = .ok (.ifCond .eq 18, 3) := by decide +kernel
theorem dX11_byChance_161 : decode cX11_byChance 161 = .ok (.aload_n 0, 1) := by decide +kernel
theorem dX11_byChance_162 : decode cX11_byChance 162 = .ok (.getfield 26, 3) := by decide +kernel
theorem dX11_byChance_165 : decode cX11_byChance 165 = .ok (.iload 11, 2) := by decide +kernel
theorem dX11_byChance_167 : decode cX11_byChance 167 = .ok (.iaload, 1) := by decide +kernel
theorem dX11_byChance_168 : decode cX11_byChance 168 = .ok (.iconst 1, 1) := by decide +kernel
theorem dX11_byChance_169 : decode cX11_byChance 169 = .ok (.if_icmp .ne 7, 3) := by decide +kernel
theorem dX11_byChance_172 : decode cX11_byChance 172 = .ok (.iconst 1, 1) := by decide +kernel
theorem dX11_byChance_173 : decode cX11_byChance 173 = .ok (.goto 4, 3) := by decide +kernel
theorem dX11_byChance_176 : decode cX11_byChance 176 = .ok (.iconst 0, 1) := by decide +kernel
theorem dX11_byChance_177 : decode cX11_byChance 177 = .ok (.iadd, 1) := by decide +kernel
theorem dX11_byChance_178 : decode cX11_byChance 178 = .ok (.istore 10, 2) := by decide +kernel
theorem dX11_byChance_180 : decode cX11_byChance 180 = .ok (.iinc 12 1, 3) := by decide +kernel
theorem dX11_byChance_183 : decode cX11_byChance 183 = .ok (.goto (-100), 3) := by decide +kernel
theorem dX11_byChance_186 : decode cX11_byChance 186 = .ok (.aload_n 0, 1) := by decide +kernel
theorem dX11_byChance_187 : decode cX11_byChance 187 = .ok (.lload 5, 2) := by decide +kernel
theorem dX11_byChance_189 : decode cX11_byChance 189 = .ok (.putfield 228, 3) := by decide +kernel
theorem dX11_byChance_192 : decode cX11_byChance 192 = .ok (.iload 4, 2) := by decide +kernel
theorem dX11_byChance_194 : decode cX11_byChance 194 = .ok (.ifCond .ne 8, 3) := by decide +kernel
theorem dX11_byChance_197 : decode cX11_byChance 197 = .ok (.iload 7, 2) := by decide +kernel
theorem dX11_byChance_199 : decode cX11_byChance 199 = .ok (.goto 27, 3) := by decide +kernel
theorem dX11_byChance_202 : decode cX11_byChance 202 = .ok (.iload 4, 2) := by decide +kernel
theorem dX11_byChance_204 : decode cX11_byChance 204 = .ok (.iconst 1, 1) := by decide +kernel
theorem dX11_byChance_205 : decode cX11_byChance 205 = .ok (.if_icmp .ne 8, 3) := by decide +kernel
theorem dX11_byChance_208 : decode cX11_byChance 208 = .ok (.iload 8, 2) := by decide +kernel
theorem dX11_byChance_210 : decode cX11_byChance 210 = .ok (.goto 16, 3) := by decide +kernel
theorem dX11_byChance_213 : decode cX11_byChance 213 = .ok (.iload 4, 2) := by decide +kernel
theorem dX11_byChance_215 : decode cX11_byChance 215 = .ok (.iconst 2, 1) := by decide +kernel
theorem dX11_byChance_216 : decode cX11_byChance 216 = .ok (.if_icmp .ne 8, 3) := by decide +kernel
theorem dX11_byChance_219 : decode cX11_byChance 219 = .ok (.iload 9, 2) := by decide +kernel
theorem dX11_byChance_221 : decode cX11_byChance 221 = .ok (.goto 5, 3) := by decide +kernel
theorem dX11_byChance_224 : decode cX11_byChance 224 = .ok (.iload 10, 2) := by decide +kernel
theorem dX11_byChance_226 : decode cX11_byChance 226 = .ok (.ireturn, 1) := by decide +kernel
theorem dX11_canBreak_0 : decode cX11_canBreak 0 = .ok (.aload_n 0, 1) := by decide +kernel
theorem dX11_canBreak_1 : decode cX11_canBreak 1 = .ok (.iconst 0, 1) := by decide +kernel
theorem dX11_canBreak_2 : decode cX11_canBreak 2 = .ok (.putfield 80, 3) := by decide +kernel
theorem dX11_canBreak_5 : decode cX11_canBreak 5 = .ok (.iload_n 1, 1) := by decide +kernel
theorem dX11_canBreak_6 : decode cX11_canBreak 6 = .ok (.i2l, 1) := by decide +kernel
theorem dX11_canBreak_7 : decode cX11_canBreak 7 = .ok (.lconst 0, 1) := by decide +kernel
theorem dX11_canBreak_8 : decode cX11_canBreak 8 = .ok (.lconst 1, 1) := by decide +kernel
theorem dX11_canBreak_9 : decode cX11_canBreak 9 = .ok (.invokestatic 132, 3) := by decide +kernel
theorem dX11_canBreak_12 : decode cX11_canBreak 12 = .ok (.ifCond .eq 18, 3) := by decide +kernel
theorem dX11_canBreak_15 : decode cX11_canBreak 15 = .ok (.aload_n 0, 1) := by decide +kernel
theorem dX11_canBreak_16 : decode cX11_canBreak 16 = .ok (.getfield 232, 3) := by decide +kernel
theorem dX11_canBreak_19 : decode cX11_canBreak 19 = .ok (.ifCond .eq 11, 3) := by decide +kernel
theorem dX11_canBreak_22 : decode cX11_canBreak 22 = .ok (.aload_n 0, 1) := by decide +kernel
theorem dX11_canBreak_23 : decode cX11_canBreak 23 = .ok (.getfield 215, 3) := by decide +kernel
theorem dX11_canBreak_26 : decode cX11_canBreak 26 = .ok (.iconst 5, 1) := by decide +kernel
theorem dX11_canBreak_27 : decode cX11_canBreak 27 = .ok (.if_icmp .le 6, 3) := by decide +kernel
theorem dX11_canBreak_30 : decode cX11_canBreak 30 = .ok (.bipush (-2), 2) := by decide +kernel
theorem dX11_canBreak_32 : decode cX11_canBreak 32 = .ok (.ireturn, 1) := by decide +kernel
theorem dX11_canBreak_33 : decode cX11_canBreak 33 = .ok (.aload_n 0, 1) := by decide +kernel
theorem dX11_canBreak_34 : decode cX11_canBreak 34 = .ok (.invokevirtual 329, 3) := by decide +kernel
theorem dX11_canBreak_37 : decode cX11_canBreak 37 = .ok (.aload_n 0, 1) := by decide +kernel
theorem dX11_canBreak_38 : decode cX11_canBreak 38 = .ok (.getfield 226, 3) := by decide +kernel
theorem dX11_canBreak_41 : decode cX11_canBreak 41 = .ok (.invokestatic 383, 3) := by decide +kernel
theorem dX11_canBreak_44 : decode cX11_canBreak 44 = .ok (.istore_n 2, 1) := by decide +kernel
theorem dX11_canBreak_45 : decode cX11_canBreak 45 = .ok (.iconst 0, 1) := by decide +kernel
theorem dX11_canBreak_46 : decode cX11_canBreak 46 = .ok (.istore_n 3, 1) := by decide +kernel
theorem dX11_canBreak_47 : decode cX11_canBreak 47 = .ok (.iload_n 3, 1) := by decide +kernel
theorem dX11_canBreak_48 : decode cX11_canBreak 48 = .ok (.iconst 1, 1) := by decide +kernel
theorem dX11_canBreak_49 : decode cX11_canBreak 49 = .ok (.aload_n 0, 1) := by decide +kernel
theorem dX11_canBreak_50 : decode cX11_canBreak 50 = .ok (.getfield 215, 3) := by decide +kernel
theorem dX11_canBreak_53 : decode cX11_canBreak 53 = .ok (.ishl, 1) := by decide +kernel
theorem dX11_canBreak_54 : decode cX11_canBreak 54 = .ok (.iconst 1, 1) := by decide +kernel
theorem dX11_canBreak_55 : decode cX11_canBreak 55 = .ok (.isub, 1) := by decide +kernel
theorem dX11_canBreak_56 : decode cX11_canBreak 56 = .ok (.if_icmp .ge 38, 3) := by decide +kernel
theorem dX11_canBreak_59 : decode cX11_canBreak 59 = .ok (.aload_n 0, 1) := by decide +kernel
theorem dX11_canBreak_60 : decode cX11_canBreak 60 = .ok (.iload_n 3, 1) := by decide +kernel
theorem dX11_canBreak_61 : decode cX11_canBreak 61 = .ok (.putfield 226, 3) := by decide +kernel
theorem dX11_canBreak_64 : decode cX11_canBreak 64 = .ok (.iload_n 3, 1) := by decide +kernel
theorem dX11_canBreak_65 : decode cX11_canBreak 65 = .ok (.invokestatic 383, 3) := by decide +kernel
theorem dX11_canBreak_68 : decode cX11_canBreak 68 = .ok (.iload_n 2, 1) := by decide +kernel
theorem dX11_canBreak_69 : decode cX11_canBreak 69 = .ok (.if_icmp .ne 19, 3) := by decide +kernel
theorem dX11_canBreak_72 : decode cX11_canBreak 72 = .ok (.aload_n 0, 1) := by decide +kernel
theorem dX11_canBreak_73 : decode cX11_canBreak 73 = .ok (.aload_n 0, 1) := by decide +kernel
theorem dX11_canBreak_74 : decode cX11_canBreak 74 = .ok (.getfield 220, 3) := by decide +kernel
theorem dX11_canBreak_77 : decode cX11_canBreak 77 = .ok (.invokevirtual 386, 3) := by decide +kernel
theorem dX11_canBreak_80 : decode cX11_canBreak 80 = .ok (.bipush 12, 2) := by decide +kernel
theorem dX11_canBreak_82 : decode cX11_canBreak 82 = .ok (.if_icmp .le 6, 3) := by decide +kernel
theorem dX11_canBreak_85 : decode cX11_canBreak 85 = .ok (.bipush (-2), 2) := by decide +kernel
theorem dX11_canBreak_87 : decode cX11_canBreak 87 = .ok (.ireturn, 1) := by decide +kernel
theorem dX11_canBreak_88 : decode cX11_canBreak 88 = .ok (.iinc 3 1, 3) := by decide +kernel
theorem dX11_canBreak_91 : decode cX11_canBreak 91 = .ok (.goto (-44), 3) := by decide +kernel
theorem dX11_canBreak_94 : decode cX11_canBreak 94 = .ok (.iconst 0, 1) := by decide +kernel
theorem dX11_canBreak_95 : decode cX11_canBreak 95 = .ok (.istore_n 3, 1) := by decide +kernel
theorem dX11_canBreak_96 : decode cX11_canBreak 96 = .ok (.iconst (-1), 1) := by decide +kernel
theorem dX11_canBreak_97 : decode cX11_canBreak 97 = .ok (.istore 4, 2) := by decide +kernel
theorem dX11_canBreak_99 : decode cX11_canBreak 99 = .ok (.iconst 0, 1) := by decide +kernel
theorem dX11_canBreak_100 : decode cX11_canBreak 100 = .ok (.istore 5, 2) := by decide +kernel
theorem dX11_canBreak_102 : decode cX11_canBreak 102 = .ok (.iload 5, 2) := by decide +kernel
theorem dX11_canBreak_104 : decode cX11_canBreak 104 = .ok (.iconst 1, 1) := by decide +kernel
theorem dX11_canBreak_105 : decode cX11_canBreak 105 = .ok (.aload_n 0, 1) := by decide +kernel
theorem dX11_canBreak_106 : decode cX11_canBreak 106 = .ok (.getfield 215, 3) := by decide +kernel
theorem dX11_canBreak_109 : decode cX11_canBreak 109 = .ok (.ishl, 1) := by decide +kernel
theorem dX11_canBreak_110 : decode cX11_canBreak 110 = .ok (.iconst 1, 1) := by decide +kernel
theorem dX11_canBreak_111 : decode cX11_canBreak 111 = .ok (.isub, 1) := by decide +kernel
theorem dX11_canBreak_112 : decode cX11_canBreak 112 = .ok (.if_icmp .ge 55, 3) := by decide +kernel
theorem dX11_canBreak_115 : decode cX11_canBreak 115 = .ok (.iload 5, 2) := by decide +kernel
theorem dX11_canBreak_117 : decode cX11_canBreak 117 = .ok (.invokestatic 383, 3) := by decide +kernel
theorem dX11_canBreak_120 : decode cX11_canBreak 120 = .ok (.iload_n 2, 1) := by decide +kernel
theorem dX11_canBreak_121 : decode cX11_canBreak 121 = .ok (.if_icmp .eq 6, 3) := by decide +kernel
theorem dX11_canBreak_124 : decode cX11_canBreak 124 = .ok (.goto 37, 3) := by decide +kernel
theorem dX11_canBreak_127 : decode cX11_canBreak 127 = .ok (.aload_n 0, 1) := by decide +kernel
theorem dX11_canBreak_128 : decode cX11_canBreak 128 = .ok (.iload 5, 2) := by decide +kernel
theorem dX11_canBreak_130 : decode cX11_canBreak 130 = .ok (.putfield 226, 3) := by decide +kernel
theorem dX11_canBreak_133 : decode cX11_canBreak 133 = .ok (.aload_n 0, 1) := by decide +kernel
theorem dX11_canBreak_134 : decode cX11_canBreak 134 = .ok (.invokevirtual 411, 3) := by decide +kernel
theorem dX11_canBreak_137 : decode cX11_canBreak 137 = .ok (.ifCond .ne 6, 3) := by decide +kernel
theorem dX11_canBreak_140 : decode cX11_canBreak 140 = .ok (.goto 21, 3) := by decide +kernel
theorem dX11_canBreak_143 : decode cX11_canBreak 143 = .ok (.iinc 3 1, 3) := by decide +kernel
theorem dX11_canBreak_146 : decode cX11_canBreak 146 = .ok (.iload 4, 2) := by decide +kernel
theorem dX11_canBreak_148 : decode cX11_canBreak 148 = .ok (.iconst (-1), 1) := by decide +kernel
theorem dX11_canBreak_149 : decode cX11_canBreak 149 = .ok (.if_icmp .ne 8, 3) := by decide +kernel
theorem dX11_canBreak_152 : decode cX11_canBreak 152 = .ok (.iload 5, 2) := by decide +kernel
theorem dX11_canBreak_154 : decode cX11_canBreak 154 = .ok (.goto 5, 3) := by decide +kernel
theorem dX11_canBreak_157 : decode cX11_canBreak 157 = .ok (.iload 4, 2) := by decide +kernel
theorem dX11_canBreak_159 : decode cX11_canBreak 159 = .ok (.istore 4, 2) := by decide +kernel
theorem dX11_canBreak_161 : decode cX11_canBreak 161 = .ok (.iinc 5 1, 3) := by decide +kernel
theorem dX11_canBreak_164 : decode cX11_canBreak 164 = .ok (.goto (-62), 3) := by decide +kernel
theorem dX11_canBreak_167 : decode cX11_canBreak 167 = .ok (.iload_n 1, 1) := by decide +kernel
theorem dX11_canBreak_168 : decode cX11_canBreak 168 = .ok (.ifCond .ne 7, 3) := by decide +kernel
theorem dX11_canBreak_171 : decode cX11_canBreak 171 = .ok (.iload_n 3, 1) := by decide +kernel
theorem dX11_canBreak_172 : decode cX11_canBreak 172 = .ok (.goto 5, 3) := by decide +kernel
theorem dX11_canBreak_175 : decode cX11_canBreak 175 = .ok (.iload 4, 2) := by decide +kernel
theorem dX11_canBreak_177 : decode cX11_canBreak 177 = .ok (.ireturn, 1) := by decide +kernel
theorem dX11_canSearch_0 : decode cX11_canSearch 0 = .ok (.aload_n 0, 1) := by decide +kernel
theorem dX11_canSearch_1 : decode cX11_canSearch 1 = .ok (.getfield 232, 3) := by decide +kernel
theorem dX11_canSearch_4 : decode cX11_canSearch 4 = .ok (.ifCond .ne 5, 3) := by decide +kernel
theorem dX11_canSearch_7 : decode cX11_canSearch 7 = .ok (.iconst 0, 1) := by decide +kernel
theorem dX11_canSearch_8 : decode cX11_canSearch 8 = .ok (.ireturn, 1) := by decide +kernel
theorem dX11_canSearch_9 : decode cX11_canSearch 9 = .ok (.aload_n 0, 1) := by decide +kernel
theorem dX11_canSearch_10 : decode cX11_canSearch 10 = .ok (.invokevirtual 329, 3) := by decide +kernel
theorem dX11_canSearch_13 : decode cX11_canSearch 13 = .ok (.aload_n 0, 1) := by decide +kernel
theorem dX11_canSearch_14 : decode cX11_canSearch 14 = .ok (.aload_n 0, 1) := by decide +kernel
theorem dX11_canSearch_15 : decode cX11_canSearch 15 = .ok (.getfield 220, 3) := by decide +kernel
theorem dX11_canSearch_18 : decode cX11_canSearch 18 = .ok (.invokevirtual 386, 3) := by decide +kernel
theorem dX11_canSearch_21 : decode cX11_canSearch 21 = .ok (.bipush 12, 2) := by decide +kernel
theorem dX11_canSearch_23 : decode cX11_canSearch 23 = .ok (.if_icmp .gt 7, 3) := by decide +kernel
theorem dX11_canSearch_26 : decode cX11_canSearch 26 = .ok (.iconst 1, 1) := by decide +kernel
theorem dX11_canSearch_27 : decode cX11_canSearch 27 = .ok (.goto 4, 3) := by decide +kernel
theorem dX11_canSearch_30 : decode cX11_canSearch 30 = .ok (.iconst 0, 1) := by decide +kernel
theorem dX11_canSearch_31 : decode cX11_canSearch 31 = .ok (.ireturn, 1) := by decide +kernel
theorem dX11_council_0 : decode cX11_council 0 = .ok (.aload_n 0, 1) := by decide +kernel
theorem dX11_council_1 : decode cX11_council 1 = .ok (.iconst 0, 1) := by decide +kernel
theorem dX11_council_2 : decode cX11_council 2 = .ok (.putfield 80, 3) := by decide +kernel
theorem dX11_council_5 : decode cX11_council 5 = .ok (.aload_n 0, 1) := by decide +kernel
theorem dX11_council_6 : decode cX11_council 6 = .ok (.invokevirtual 206, 3) := by decide +kernel
theorem dX11_council_9 : decode cX11_council 9 = .ok (.iconst (-1), 1) := by decide +kernel
theorem dX11_council_10 : decode cX11_council 10 = .ok (.if_icmp .eq 5, 3) := by decide +kernel
theorem dX11_council_13 : decode cX11_council 13 = .ok (.iconst (-1), 1) := by decide +kernel
theorem dX11_council_14 : decode cX11_council 14 = .ok (.ireturn, 1) := by decide +kernel
theorem dX11_council_15 : decode cX11_council 15 = .ok (.aload_n 0, 1) := by decide +kernel
theorem dX11_council_16 : decode cX11_council 16 = .ok (.iconst 0, 1) := by decide +kernel
theorem dX11_council_17 : decode cX11_council 17 = .ok (.putfield 84, 3) := by decide +kernel
theorem dX11_council_20 : decode cX11_council 20 = .ok (.aload_n 0, 1) := by decide +kernel
theorem dX11_council_21 : decode cX11_council 21 = .ok (.aload_n 0, 1) := by decide +kernel
theorem dX11_council_22 : decode cX11_council 22 = .ok (.getfield 178, 3) := by decide +kernel
theorem dX11_council_25 : decode cX11_council 25 = .ok (.putfield 212, 3) := by decide +kernel
theorem dX11_council_28 : decode cX11_council 28 = .ok (.aload_n 0, 1) := by decide +kernel
theorem dX11_council_29 : decode cX11_council 29 = .ok (.aload_n 0, 1) := by decide +kernel
theorem dX11_council_30 : decode cX11_council 30 = .ok (.getfield 13, 3) := by decide +kernel
theorem dX11_council_33 : decode cX11_council 33 = .ok (.iconst 0, 1) := by decide +kernel
theorem dX11_council_34 : decode cX11_council 34 = .ok (.iaload, 1) := by decide +kernel
theorem dX11_council_35 : decode cX11_council 35 = .ok (.putfield 215, 3) := by decide +kernel
theorem dX11_council_38 : decode cX11_council 38 = .ok (.aload_n 0, 1) := by decide +kernel
theorem dX11_council_39 : decode cX11_council 39 = .ok (.aload_n 0, 1) := by decide +kernel
theorem dX11_council_40 : decode cX11_council 40 = .ok (.getfield 13, 3) := by decide +kernel
theorem dX11_council_43 : decode cX11_council 43 = .ok (.iconst 1, 1) := by decide +kernel
theorem dX11_council_44 : decode cX11_council 44 = .ok (.iaload, 1) := by decide +kernel
theorem dX11_council_45 : decode cX11_council 45 = .ok (.putfield 218, 3) := by decide +kernel
theorem dX11_council_48 : decode cX11_council 48 = .ok (.aload_n 0, 1) := by decide +kernel
theorem dX11_council_49 : decode cX11_council 49 = .ok (.aload_n 0, 1) := by decide +kernel
theorem dX11_council_50 : decode cX11_council 50 = .ok (.getfield 13, 3) := by decide +kernel
theorem dX11_council_53 : decode cX11_council 53 = .ok (.iconst 2, 1) := by decide +kernel
theorem dX11_council_54 : decode cX11_council 54 = .ok (.iaload, 1) := by decide +kernel
theorem dX11_council_55 : decode cX11_council 55 = .ok (.putfield 220, 3) := by decide +kernel
theorem dX11_council_58 : decode cX11_council 58 = .ok (.aload_n 0, 1) := by decide +kernel
theorem dX11_council_59 : decode cX11_council 59 = .ok (.aload_n 0, 1) := by decide +kernel
theorem dX11_council_60 : decode cX11_council 60 = .ok (.getfield 13, 3) := by decide +kernel
theorem dX11_council_63 : decode cX11_council 63 = .ok (.iconst 5, 1) := by decide +kernel
theorem dX11_council_64 : decode cX11_council 64 = .ok (.iaload, 1) := by decide +kernel
theorem dX11_council_65 : decode cX11_council 65 = .ok (.putfield 222, 3) := by decide +kernel
theorem dX11_council_68 : decode cX11_council 68 = .ok (.aload_n 0, 1) := by decide +kernel
theorem dX11_council_69 : decode cX11_council 69 = .ok (.aload_n 0, 1) := by decide +kernel
theorem dX11_council_70 : decode cX11_council 70 = .ok (.getfield 13, 3) := by decide +kernel
theorem dX11_council_73 : decode cX11_council 73 = .ok (.iconst 3, 1) := by decide +kernel
theorem dX11_council_74 : decode cX11_council 74 = .ok (.iaload, 1) := by decide +kernel
theorem dX11_council_75 : decode cX11_council 75 = .ok (.putfield 224, 3) := by decide +kernel
theorem dX11_council_78 : decode cX11_council 78 = .ok (.aload_n 0, 1) := by decide +kernel
theorem dX11_council_79 : decode cX11_council 79 = .ok (.aload_n 0, 1) := by decide +kernel
theorem dX11_council_80 : decode cX11_council 80 = .ok (.getfield 13, 3) := by decide +kernel
theorem dX11_council_83 : decode cX11_council 83 = .ok (.iconst 4, 1) := by decide +kernel
theorem dX11_council_84 : decode cX11_council 84 = .ok (.iaload, 1) := by decide +kernel
theorem dX11_council_85 : decode cX11_council 85 = .ok (.putfield 226, 3) := by decide +kernel
theorem dX11_council_88 : decode cX11_council 88 = .ok (.aload_n 0, 1) := by decide +kernel
theorem dX11_council_89 : decode cX11_council 89 = .ok (.lload_n 1, 1) := by decide +kernel
theorem dX11_council_90 : decode cX11_council 90 = .ok (.putfield 228, 3) := by decide +kernel
theorem dX11_council_93 : decode cX11_council 93 = .ok (.aload_n 0, 1) := by decide +kernel
theorem dX11_council_94 : decode cX11_council 94 = .ok (.iconst 1, 1) := by decide +kernel
theorem dX11_council_95 : decode cX11_council 95 = .ok (.putfield 232, 3) := by decide +kernel
theorem dX11_council_98 : decode cX11_council 98 = .ok (.aload_n 0, 1) := by decide +kernel
theorem dX11_council_99 : decode cX11_council 99 = .ok (.iconst 0, 1) := by decide +kernel
theorem dX11_council_100 : decode cX11_council 100 = .ok (.putfield 236, 3) := by decide +kernel
theorem dX11_council_103 : decode cX11_council 103 = .ok (.aload_n 0, 1) := by decide +kernel
theorem dX11_council_104 : decode cX11_council 104 = .ok (.iconst 0, 1) := by decide +kernel
theorem dX11_council_105 : decode cX11_council 105 = .ok (.putfield 239, 3) := by decide +kernel
theorem dX11_council_108 : decode cX11_council 108 = .ok (.aload_n 0, 1) := by decide +kernel
theorem dX11_council_109 : decode cX11_council 109 = .ok (.iconst 0, 1) := by decide +kernel
theorem dX11_council_110 : decode cX11_council 110 = .ok (.putfield 242, 3) := by decide +kernel
theorem dX11_council_113 : decode cX11_council 113 = .ok (.aload_n 0, 1) := by decide +kernel
theorem dX11_council_114 : decode cX11_council 114 = .ok (.invokevirtual 245, 3) := by decide +kernel
theorem dX11_council_117 : decode cX11_council 117 = .ok (.aload_n 0, 1) := by decide +kernel
theorem dX11_council_118 : decode cX11_council 118 = .ok (.getfield 215, 3) := by decide +kernel
theorem dX11_council_121 : decode cX11_council 121 = .ok (.ireturn, 1) := by decide +kernel
theorem dX11_count_0 : decode cX11_count 0 = .ok (.aload_n 0, 1) := by decide +kernel
theorem dX11_count_1 : decode cX11_count 1 = .ok (.iconst 0, 1) := by decide +kernel
theorem dX11_count_2 : decode cX11_count 2 = .ok (.putfield 80, 3) := by decide +kernel
theorem dX11_count_5 : decode cX11_count 5 = .ok (.iload_n 1, 1) := by decide +kernel
theorem dX11_count_6 : decode cX11_count 6 = .ok (.ifCond .ne 10, 3) := by decide +kernel
theorem dX11_count_9 : decode cX11_count 9 = .ok (.aload_n 0, 1) := by decide +kernel
theorem dX11_count_10 : decode cX11_count 10 = .ok (.getfield 84, 3) := by decide +kernel
theorem dX11_count_13 : decode cX11_count 13 = .ok (.goto 42, 3) := by decide +kernel
theorem dX11_count_16 : decode cX11_count 16 = .ok (.iload_n 1, 1) := by decide +kernel
theorem dX11_count_17 : decode cX11_count 17 = .ok (.iconst 1, 1) := by decide +kernel
theorem dX11_count_18 : decode cX11_count 18 = .ok (.if_icmp .ne 10, 3) := by decide +kernel
theorem dX11_count_21 : decode cX11_count 21 = .ok (.aload_n 0, 1) := by decide +kernel
theorem dX11_count_22 : decode cX11_count 22 = .ok (.getfield 239, 3) := by decide +kernel
theorem dX11_count_25 : decode cX11_count 25 = .ok (.goto 30, 3) := by decide +kernel
theorem dX11_count_28 : decode cX11_count 28 = .ok (.iload_n 1, 1) := by decide +kernel
theorem dX11_count_29 : decode cX11_count 29 = .ok (.iconst 2, 1) := by decide +kernel
theorem dX11_count_30 : decode cX11_count 30 = .ok (.if_icmp .ne 24, 3) := by decide +kernel
theorem dX11_count_33 : decode cX11_count 33 = .ok (.aload_n 0, 1) := by decide +kernel
theorem dX11_count_34 : decode cX11_count 34 = .ok (.getfield 232, 3) := by decide +kernel
theorem dX11_count_37 : decode cX11_count 37 = .ok (.ifCond .eq 13, 3) := by decide +kernel
theorem dX11_count_40 : decode cX11_count 40 = .ok (.aload_n 0, 1) := by decide +kernel
theorem dX11_count_41 : decode cX11_count 41 = .ok (.getfield 57, 3) := by decide +kernel
theorem dX11_count_44 : decode cX11_count 44 = .ok (.bipush 72, 2) := by decide +kernel
theorem dX11_count_46 : decode cX11_count 46 = .ok (.iaload, 1) := by decide +kernel
theorem dX11_count_47 : decode cX11_count 47 = .ok (.goto 8, 3) := by decide +kernel
theorem dX11_count_50 : decode cX11_count 50 = .ok (.iconst 0, 1) := by decide +kernel
theorem dX11_count_51 : decode cX11_count 51 = .ok (.goto 4, 3) := by decide +kernel
theorem dX11_count_54 : decode cX11_count 54 = .ok (.iconst (-1), 1) := by decide +kernel
theorem dX11_count_55 : decode cX11_count 55 = .ok (.ireturn, 1) := by decide +kernel
theorem dX11_end_0 : decode cX11_end 0 = .ok (.aload_n 0, 1) := by decide +kernel
theorem dX11_end_1 : decode cX11_end 1 = .ok (.iconst 0, 1) := by decide +kernel
theorem dX11_end_2 : decode cX11_end 2 = .ok (.putfield 80, 3) := by decide +kernel
theorem dX11_end_5 : decode cX11_end 5 = .ok (.iload_n 1, 1) := by decide +kernel
theorem dX11_end_6 : decode cX11_end 6 = .ok (.ifCond .lt 11, 3) := by decide +kernel
theorem dX11_end_9 : decode cX11_end 9 = .ok (.iload_n 1, 1) := by decide +kernel
theorem dX11_end_10 : decode cX11_end 10 = .ok (.aload_n 0, 1) := by decide +kernel
theorem dX11_end_11 : decode cX11_end 11 = .ok (.getfield 84, 3) := by decide +kernel
theorem dX11_end_14 : decode cX11_end 14 = .ok (.if_icmp .le 5, 3) := by decide +kernel
theorem dX11_end_17 : decode cX11_end 17 = .ok (.iconst 0, 1) := by decide +kernel
theorem dX11_end_18 : decode cX11_end 18 = .ok (.ireturn, 1) := by decide +kernel
theorem dX11_end_19 : decode cX11_end 19 = .ok (.aload_n 0, 1) := by decide +kernel
theorem dX11_end_20 : decode cX11_end 20 = .ok (.iload_n 1, 1) := by decide +kernel
theorem dX11_end_21 : decode cX11_end 21 = .ok (.putfield 84, 3) := by decide +kernel
theorem dX11_end_24 : decode cX11_end 24 = .ok (.iconst 1, 1) := by decide +kernel
theorem dX11_end_25 : decode cX11_end 25 = .ok (.ireturn, 1) := by decide +kernel
theorem dX11_fails_0 : decode cX11_fails 0 = .ok (.aload_n 0, 1) := by decide +kernel
theorem dX11_fails_1 : decode cX11_fails 1 = .ok (.getfield 102, 3) := by decide +kernel
theorem dX11_fails_4 : decode cX11_fails 4 = .ok (.iconst (-1), 1) := by decide +kernel
theorem dX11_fails_5 : decode cX11_fails 5 = .ok (.if_icmp .ne 8, 3) := by decide +kernel
theorem dX11_fails_8 : decode cX11_fails 8 = .ok (.aload_n 0, 1) := by decide +kernel
theorem dX11_fails_9 : decode cX11_fails 9 = .ok (.iload_n 1, 1) := by decide +kernel
theorem dX11_fails_10 : decode cX11_fails 10 = .ok (.putfield 102, 3) := by decide +kernel
theorem dX11_fails_13 : decode cX11_fails 13 = .ok (.return_, 1) := by decide +kernel
theorem dX11_falseOnes_0 : decode cX11_falseOnes 0 = .ok (.aload_n 0, 1) := by decide +kernel
theorem dX11_falseOnes_1 : decode cX11_falseOnes 1 = .ok (.iconst 0, 1) := by decide +kernel
theorem dX11_falseOnes_2 : decode cX11_falseOnes 2 = .ok (.putfield 80, 3) := by decide +kernel
theorem dX11_falseOnes_5 : decode cX11_falseOnes 5 = .ok (.aload_n 0, 1) := by decide +kernel
theorem dX11_falseOnes_6 : decode cX11_falseOnes 6 = .ok (.getfield 232, 3) := by decide +kernel
theorem dX11_falseOnes_9 : decode cX11_falseOnes 9 = .ok (.ifCond .ne 9, 3) := by decide +kernel
theorem dX11_falseOnes_12 : decode cX11_falseOnes 12 = .ok (.aload_n 0, 1) := by decide +kernel
theorem dX11_falseOnes_13 : decode cX11_falseOnes 13 = .ok (.iconst 0, 1) := by decide +kernel
theorem dX11_falseOnes_14 : decode cX11_falseOnes 14 = .ok (.invokevirtual 341, 3) := by decide +kernel
theorem dX11_falseOnes_17 : decode cX11_falseOnes 17 = .ok (.ireturn, 1) := by decide +kernel
theorem dX11_falseOnes_18 : decode cX11_falseOnes 18 = .ok (.iload_n 1, 1) := by decide +kernel
theorem dX11_falseOnes_19 : decode cX11_falseOnes 19 = .ok (.i2l, 1) := by decide +kernel
theorem dX11_falseOnes_20 : decode cX11_falseOnes 20 = .ok (.lconst 0, 1) := by decide +kernel
theorem dX11_falseOnes_21 : decode cX11_falseOnes 21 = .ok (.iconst 1, 1) := by decide +kernel
theorem dX11_falseOnes_22 : decode cX11_falseOnes 22 = .ok (.aload_n 0, 1) := by decide +kernel
theorem dX11_falseOnes_23 : decode cX11_falseOnes 23 = .ok (.getfield 215, 3) := by decide +kernel
theorem dX11_falseOnes_26 : decode cX11_falseOnes 26 = .ok (.ishl, 1) := by decide +kernel
theorem dX11_falseOnes_27 : decode cX11_falseOnes 27 = .ok (.iconst 2, 1) := by decide +kernel
theorem dX11_falseOnes_28 : decode cX11_falseOnes 28 = .ok (.isub, 1) := by decide +kernel
theorem dX11_falseOnes_29 : decode cX11_falseOnes 29 = .ok (.i2l, 1) := by decide +kernel
theorem dX11_falseOnes_30 : decode cX11_falseOnes 30 = .ok (.invokestatic 132, 3) := by decide +kernel
theorem dX11_falseOnes_33 : decode cX11_falseOnes 33 = .ok (.ifCond .ne 9, 3) := by decide +kernel
theorem dX11_falseOnes_36 : decode cX11_falseOnes 36 = .ok (.aload_n 0, 1) := by decide +kernel
theorem dX11_falseOnes_37 : decode cX11_falseOnes 37 = .ok (.iconst 1, 1) := by decide +kernel
theorem dX11_falseOnes_38 : decode cX11_falseOnes 38 = .ok (.invokevirtual 341, 3) := by decide +kernel
theorem dX11_falseOnes_41 : decode cX11_falseOnes 41 = .ok (.ireturn, 1) := by decide +kernel
theorem dX11_falseOnes_42 : decode cX11_falseOnes 42 = .ok (.aload_n 0, 1) := by decide +kernel
theorem dX11_falseOnes_43 : decode cX11_falseOnes 43 = .ok (.invokevirtual 329, 3) := by decide +kernel
theorem dX11_falseOnes_46 : decode cX11_falseOnes 46 = .ok (.aload_n 0, 1) := by decide +kernel
theorem dX11_falseOnes_47 : decode cX11_falseOnes 47 = .ok (.getfield 251, 3) := by decide +kernel
theorem dX11_falseOnes_50 : decode cX11_falseOnes 50 = .ok (.ifCond .le 9, 3) := by decide +kernel
theorem dX11_falseOnes_53 : decode cX11_falseOnes 53 = .ok (.aload_n 0, 1) := by decide +kernel
theorem dX11_falseOnes_54 : decode cX11_falseOnes 54 = .ok (.iconst 3, 1) := by decide +kernel
theorem dX11_falseOnes_55 : decode cX11_falseOnes 55 = .ok (.invokevirtual 341, 3) := by decide +kernel
theorem dX11_falseOnes_58 : decode cX11_falseOnes 58 = .ok (.ireturn, 1) := by decide +kernel
theorem dX11_falseOnes_59 : decode cX11_falseOnes 59 = .ok (.aload_n 0, 1) := by decide +kernel
theorem dX11_falseOnes_60 : decode cX11_falseOnes 60 = .ok (.invokevirtual 326, 3) := by decide +kernel
theorem dX11_falseOnes_63 : decode cX11_falseOnes 63 = .ok (.aload_n 0, 1) := by decide +kernel
theorem dX11_falseOnes_64 : decode cX11_falseOnes 64 = .ok (.getfield 226, 3) := by decide +kernel
theorem dX11_falseOnes_67 : decode cX11_falseOnes 67 = .ok (.istore_n 2, 1) := by decide +kernel
theorem dX11_falseOnes_68 : decode cX11_falseOnes 68 = .ok (.aload_n 0, 1) := by decide +kernel
theorem dX11_falseOnes_69 : decode cX11_falseOnes 69 = .ok (.iload_n 1, 1) := by decide +kernel
theorem dX11_falseOnes_70 : decode cX11_falseOnes 70 = .ok (.putfield 226, 3) := by decide +kernel
theorem dX11_falseOnes_73 : decode cX11_falseOnes 73 = .ok (.iconst 0, 1) := by decide +kernel
theorem dX11_falseOnes_74 : decode cX11_falseOnes 74 = .ok (.istore_n 3, 1) := by decide +kernel
theorem dX11_falseOnes_75 : decode cX11_falseOnes 75 = .ok (.iconst 0, 1) := by decide +kernel
theorem dX11_falseOnes_76 : decode cX11_falseOnes 76 = .ok (.istore 4, 2) := by decide +kernel
theorem dX11_falseOnes_78 : decode cX11_falseOnes 78 = .ok (.iload 4, 2) := by decide +kernel
theorem dX11_falseOnes_80 : decode cX11_falseOnes 80 = .ok (.aload_n 0, 1) := by decide +kernel
theorem dX11_falseOnes_81 : decode cX11_falseOnes 81 = .ok (.getfield 236, 3) := by decide +kernel
theorem dX11_falseOnes_84 : decode cX11_falseOnes 84 = .ok (.if_icmp .ge 71, 3) := by decide +kernel
theorem dX11_falseOnes_87 : decode cX11_falseOnes 87 = .ok (.iload_n 1, 1) := by decide +kernel
theorem dX11_falseOnes_88 : decode cX11_falseOnes 88 = .ok (.aload_n 0, 1) := by decide +kernel
theorem dX11_falseOnes_89 : decode cX11_falseOnes 89 = .ok (.getfield 23, 3) := by decide +kernel
theorem dX11_falseOnes_92 : decode cX11_falseOnes 92 = .ok (.iconst 5, 1) := by decide +kernel
theorem dX11_falseOnes_93 : decode cX11_falseOnes 93 = .ok (.iload 4, 2) := by decide +kernel
theorem dX11_falseOnes_95 : decode cX11_falseOnes 95 = .ok (.imul, 1) := by decide +kernel
theorem dX11_falseOnes_96 : decode cX11_falseOnes 96 = .ok (.iconst 2, 1) := by decide +kernel
theorem dX11_falseOnes_97 : decode cX11_falseOnes 97 = .ok (.iadd, 1) := by decide +kernel
theorem dX11_falseOnes_98 : decode cX11_falseOnes 98 = .ok (.iaload, 1) := by decide +kernel
theorem dX11_falseOnes_99 : decode cX11_falseOnes 99 = .ok (.invokestatic 161, 3) := by decide +kernel
theorem dX11_falseOnes_102 : decode cX11_falseOnes 102 = .ok (.ifCond .ne 6, 3) := by decide +kernel
theorem dX11_falseOnes_105 : decode cX11_falseOnes 105 = .ok (.goto 44, 3) := by decide +kernel
theorem dX11_falseOnes_108 : decode cX11_falseOnes 108 = .ok (.iconst 0, 1) := by decide +kernel
theorem dX11_falseOnes_109 : decode cX11_falseOnes 109 = .ok (.istore 5, 2) := by decide +kernel
theorem dX11_falseOnes_111 : decode cX11_falseOnes 111 = .ok (.iload 5, 2) := by decide +kernel
theorem dX11_falseOnes_113 : decode cX11_falseOnes 113 = .ok (.iconst 5, 1) := by decide +kernel
theorem dX11_falseOnes_114 : decode cX11_falseOnes 114 = .ok (.if_icmp .ge 32, 3) := by decide +kernel
theorem dX11_falseOnes_117 : decode cX11_falseOnes 117 = .ok (.aload_n 0, 1) := by decide +kernel
theorem dX11_falseOnes_118 : decode cX11_falseOnes 118 = .ok (.getfield 23, 3) := by decide +kernel
theorem dX11_falseOnes_121 : decode cX11_falseOnes 121 = .ok (.iconst 5, 1) := by decide +kernel
theorem dX11_falseOnes_122 : decode cX11_falseOnes 122 = .ok (.iload_n 3, 1) := by decide +kernel
theorem dX11_falseOnes_123 : decode cX11_falseOnes 123 = .ok (.imul, 1) := by decide +kernel
theorem dX11_falseOnes_124 : decode cX11_falseOnes 124 = .ok (.iload 5, 2) := by decide +kernel
theorem dX11_falseOnes_126 : decode cX11_falseOnes 126 = .ok (.iadd, 1) := by decide +kernel
theorem dX11_falseOnes_127 : decode cX11_falseOnes 127 = .ok (.aload_n 0, 1) := by decide +kernel
theorem dX11_falseOnes_128 : decode cX11_falseOnes 128 = .ok (.getfield 23, 3) := by decide +kernel
theorem dX11_falseOnes_131 : decode cX11_falseOnes 131 = .ok (.iconst 5, 1) := by decide +kernel
theorem dX11_falseOnes_132 : decode cX11_falseOnes 132 = .ok (.iload 4, 2) := by decide +kernel
theorem dX11_falseOnes_134 : decode cX11_falseOnes 134 = .ok (.imul, 1) := by decide +kernel
theorem dX11_falseOnes_135 : decode cX11_falseOnes 135 = .ok (.iload 5, 2) := by decide +kernel
theorem dX11_falseOnes_137 : decode cX11_falseOnes 137 = .ok (.iadd, 1) := by decide +kernel
theorem dX11_falseOnes_138 : decode cX11_falseOnes 138 = .ok (.iaload, 1) := by decide +kernel
theorem dX11_falseOnes_139 : decode cX11_falseOnes 139 = .ok (.iastore, 1) := by decide +kernel
theorem dX11_falseOnes_140 : decode cX11_falseOnes 140 = .ok (.iinc 5 1, 3) := by decide +kernel
theorem dX11_falseOnes_143 : decode cX11_falseOnes 143 = .ok (.goto (-32), 3) := by decide +kernel
theorem dX11_falseOnes_146 : decode cX11_falseOnes 146 = .ok (.iinc 3 1, 3) := by decide +kernel
theorem dX11_falseOnes_149 : decode cX11_falseOnes 149 = .ok (.iinc 4 1, 3) := by decide +kernel
theorem dX11_falseOnes_152 : decode cX11_falseOnes 152 = .ok (.goto (-74), 3) := by decide +kernel
theorem dX11_falseOnes_155 : decode cX11_falseOnes 155 = .ok (.aload_n 0, 1) := by decide +kernel
theorem dX11_falseOnes_156 : decode cX11_falseOnes 156 = .ok (.iload_n 3, 1) := by decide +kernel
theorem dX11_falseOnes_157 : decode cX11_falseOnes 157 = .ok (.putfield 236, 3) := by decide +kernel
theorem dX11_falseOnes_160 : decode cX11_falseOnes 160 = .ok (.aload_n 0, 1) := by decide +kernel
theorem dX11_falseOnes_161 : decode cX11_falseOnes 161 = .ok (.invokevirtual 323, 3) := by decide +kernel
theorem dX11_falseOnes_164 : decode cX11_falseOnes 164 = .ok (.iload_n 2, 1) := by decide +kernel
theorem dX11_falseOnes_165 : decode cX11_falseOnes 165 = .ok (.ireturn, 1) := by decide +kernel
theorem dX11_fault_0 : decode cX11_fault 0 = .ok (.aload_n 0, 1) := by decide +kernel
theorem dX11_fault_1 : decode cX11_fault 1 = .ok (.iconst 0, 1) := by decide +kernel
theorem dX11_fault_2 : decode cX11_fault 2 = .ok (.putfield 80, 3) := by decide +kernel
theorem dX11_fault_5 : decode cX11_fault 5 = .ok (.iload_n 1, 1) := by decide +kernel
theorem dX11_fault_6 : decode cX11_fault 6 = .ok (.ifCond .ne 10, 3) := by decide +kernel
theorem dX11_fault_9 : decode cX11_fault 9 = .ok (.aload_n 0, 1) := by decide +kernel
theorem dX11_fault_10 : decode cX11_fault 10 = .ok (.invokevirtual 206, 3) := by decide +kernel
theorem dX11_fault_13 : decode cX11_fault 13 = .ok (.goto 17, 3) := by decide +kernel
theorem dX11_fault_16 : decode cX11_fault 16 = .ok (.iload_n 1, 1) := by decide +kernel
theorem dX11_fault_17 : decode cX11_fault 17 = .ok (.iconst 1, 1) := by decide +kernel
theorem dX11_fault_18 : decode cX11_fault 18 = .ok (.if_icmp .ne 10, 3) := by decide +kernel
theorem dX11_fault_21 : decode cX11_fault 21 = .ok (.aload_n 0, 1) := by decide +kernel
theorem dX11_fault_22 : decode cX11_fault 22 = .ok (.invokevirtual 209, 3) := by decide +kernel
theorem dX11_fault_25 : decode cX11_fault 25 = .ok (.goto 5, 3) := by decide +kernel
theorem dX11_fault_28 : decode cX11_fault 28 = .ok (.bipush (-2), 2) := by decide +kernel
theorem dX11_fault_30 : decode cX11_fault 30 = .ok (.ireturn, 1) := by decide +kernel
theorem dX11_free_0 : decode cX11_free 0 = .ok (.aload_n 0, 1) := by decide +kernel
theorem dX11_free_1 : decode cX11_free 1 = .ok (.iconst 0, 1) := by decide +kernel
theorem dX11_free_2 : decode cX11_free 2 = .ok (.putfield 80, 3) := by decide +kernel
theorem dX11_free_5 : decode cX11_free 5 = .ok (.aload_n 0, 1) := by decide +kernel
theorem dX11_free_6 : decode cX11_free 6 = .ok (.getfield 232, 3) := by decide +kernel
theorem dX11_free_9 : decode cX11_free 9 = .ok (.ifCond .ne 5, 3) := by decide +kernel
theorem dX11_free_12 : decode cX11_free 12 = .ok (.iconst (-1), 1) := by decide +kernel
theorem dX11_free_13 : decode cX11_free 13 = .ok (.ireturn, 1) := by decide +kernel
theorem dX11_free_14 : decode cX11_free 14 = .ok (.aload_n 0, 1) := by decide +kernel
theorem dX11_free_15 : decode cX11_free 15 = .ok (.invokevirtual 329, 3) := by decide +kernel
theorem dX11_free_18 : decode cX11_free 18 = .ok (.aload_n 0, 1) := by decide +kernel
theorem dX11_free_19 : decode cX11_free 19 = .ok (.aload_n 0, 1) := by decide +kernel
theorem dX11_free_20 : decode cX11_free 20 = .ok (.getfield 220, 3) := by decide +kernel
theorem dX11_free_23 : decode cX11_free 23 = .ok (.invokevirtual 386, 3) := by decide +kernel
theorem dX11_free_26 : decode cX11_free 26 = .ok (.ireturn, 1) := by decide +kernel
theorem dX11_has_0 : decode cX11_has 0 = .ok (.iload_n 0, 1) := by decide +kernel
theorem dX11_has_1 : decode cX11_has 1 = .ok (.iload_n 1, 1) := by decide +kernel
theorem dX11_has_2 : decode cX11_has 2 = .ok (.ishr, 1) := by decide +kernel
theorem dX11_has_3 : decode cX11_has 3 = .ok (.iconst 1, 1) := by decide +kernel
theorem dX11_has_4 : decode cX11_has 4 = .ok (.iand, 1) := by decide +kernel
theorem dX11_has_5 : decode cX11_has 5 = .ok (.iconst 1, 1) := by decide +kernel
theorem dX11_has_6 : decode cX11_has 6 = .ok (.if_icmp .ne 7, 3) := by decide +kernel
theorem dX11_has_9 : decode cX11_has 9 = .ok (.iconst 1, 1) := by decide +kernel
theorem dX11_has_10 : decode cX11_has 10 = .ok (.goto 4, 3) := by decide +kernel
theorem dX11_has_13 : decode cX11_has 13 = .ok (.iconst 0, 1) := by decide +kernel
theorem dX11_has_14 : decode cX11_has 14 = .ok (.ireturn, 1) := by decide +kernel
theorem dX11_heard_0 : decode cX11_heard 0 = .ok (.aload_n 0, 1) := by decide +kernel
theorem dX11_heard_1 : decode cX11_heard 1 = .ok (.iconst 0, 1) := by decide +kernel
theorem dX11_heard_2 : decode cX11_heard 2 = .ok (.putfield 80, 3) := by decide +kernel
theorem dX11_heard_5 : decode cX11_heard 5 = .ok (.aload_n 0, 1) := by decide +kernel
theorem dX11_heard_6 : decode cX11_heard 6 = .ok (.iload_n 1, 1) := by decide +kernel
theorem dX11_heard_7 : decode cX11_heard 7 = .ok (.iload_n 2, 1) := by decide +kernel
theorem dX11_heard_8 : decode cX11_heard 8 = .ok (.invokevirtual 344, 3) := by decide +kernel
theorem dX11_heard_11 : decode cX11_heard 11 = .ok (.ifCond .eq 38, 3) := by decide +kernel
theorem dX11_heard_14 : decode cX11_heard 14 = .ok (.aload_n 0, 1) := by decide +kernel
theorem dX11_heard_15 : decode cX11_heard 15 = .ok (.iload_n 3, 1) := by decide +kernel
theorem dX11_heard_16 : decode cX11_heard 16 = .ok (.invokevirtual 347, 3) := by decide +kernel
theorem dX11_heard_19 : decode cX11_heard 19 = .ok (.ifCond .eq 30, 3) := by decide +kernel
theorem dX11_heard_22 : decode cX11_heard 22 = .ok (.aload_n 0, 1) := by decide +kernel
theorem dX11_heard_23 : decode cX11_heard 23 = .ok (.iload 4, 2) := by decide +kernel
theorem dX11_heard_25 : decode cX11_heard 25 = .ok (.invokevirtual 347, 3) := by decide +kernel
theorem dX11_heard_28 : decode cX11_heard 28 = .ok (.ifCond .eq 21, 3) := by decide +kernel
theorem dX11_heard_31 : decode cX11_heard 31 = .ok (.aload_n 0, 1) := by decide +kernel
theorem dX11_heard_32 : decode cX11_heard 32 = .ok (.invokevirtual 287, 3) := by decide +kernel
theorem dX11_heard_35 : decode cX11_heard 35 = .ok (.iload_n 1, 1) := by decide +kernel
theorem dX11_heard_36 : decode cX11_heard 36 = .ok (.imul, 1) := by decide +kernel
theorem dX11_heard_37 : decode cX11_heard 37 = .ok (.iload_n 2, 1) := by decide +kernel
theorem dX11_heard_38 : decode cX11_heard 38 = .ok (.iadd, 1) := by decide +kernel
theorem dX11_heard_39 : decode cX11_heard 39 = .ok (.aload_n 0, 1) := by decide +kernel
theorem dX11_heard_40 : decode cX11_heard 40 = .ok (.getfield 57, 3) := by decide +kernel
theorem dX11_heard_43 : decode cX11_heard 43 = .ok (.bipush 72, 2) := by decide +kernel
theorem dX11_heard_45 : decode cX11_heard 45 = .ok (.iaload, 1) := by decide +kernel
theorem dX11_heard_46 : decode cX11_heard 46 = .ok (.if_icmp .lt 5, 3) := by decide +kernel
theorem dX11_heard_49 : decode cX11_heard 49 = .ok (.iconst (-1), 1) := by decide +kernel
theorem dX11_heard_50 : decode cX11_heard 50 = .ok (.ireturn, 1) := by decide +kernel
theorem dX11_heard_51 : decode cX11_heard 51 = .ok (.aload_n 0, 1) := by decide +kernel
theorem dX11_heard_52 : decode cX11_heard 52 = .ok (.getfield 57, 3) := by decide +kernel
theorem dX11_heard_55 : decode cX11_heard 55 = .ok (.bipush 80, 2) := by decide +kernel
theorem dX11_heard_57 : decode cX11_heard 57 = .ok (.bipush 81, 2) := by decide +kernel
theorem dX11_heard_59 : decode cX11_heard 59 = .ok (.iconst 3, 1) := by decide +kernel
theorem dX11_heard_60 : decode cX11_heard 60 = .ok (.iload_n 1, 1) := by decide +kernel
theorem dX11_heard_61 : decode cX11_heard 61 = .ok (.imul, 1) := by decide +kernel
theorem dX11_heard_62 : decode cX11_heard 62 = .ok (.iload_n 2, 1) := by decide +kernel
theorem dX11_heard_63 : decode cX11_heard 63 = .ok (.iadd, 1) := by decide +kernel
theorem dX11_heard_64 : decode cX11_heard 64 = .ok (.imul, 1) := by decide +kernel
theorem dX11_heard_65 : decode cX11_heard 65 = .ok (.iadd, 1) := by decide +kernel
theorem dX11_heard_66 : decode cX11_heard 66 = .ok (.bipush 9, 2) := by decide +kernel
theorem dX11_heard_68 : decode cX11_heard 68 = .ok (.iload_n 3, 1) := by decide +kernel
theorem dX11_heard_69 : decode cX11_heard 69 = .ok (.imul, 1) := by decide +kernel
theorem dX11_heard_70 : decode cX11_heard 70 = .ok (.iadd, 1) := by decide +kernel
theorem dX11_heard_71 : decode cX11_heard 71 = .ok (.iload 4, 2) := by decide +kernel
theorem dX11_heard_73 : decode cX11_heard 73 = .ok (.iadd, 1) := by decide +kernel
theorem dX11_heard_74 : decode cX11_heard 74 = .ok (.iaload, 1) := by decide +kernel
theorem dX11_heard_75 : decode cX11_heard 75 = .ok (.ireturn, 1) := by decide +kernel
theorem dX11_held_0 : decode cX11_held 0 = .ok (.aload_n 0, 1) := by decide +kernel
theorem dX11_held_1 : decode cX11_held 1 = .ok (.iconst 0, 1) := by decide +kernel
theorem dX11_held_2 : decode cX11_held 2 = .ok (.putfield 80, 3) := by decide +kernel
theorem dX11_held_5 : decode cX11_held 5 = .ok (.aload_n 0, 1) := by decide +kernel
theorem dX11_held_6 : decode cX11_held 6 = .ok (.invokevirtual 396, 3) := by decide +kernel
theorem dX11_held_9 : decode cX11_held 9 = .ok (.ifCond .ne 6, 3) := by decide +kernel
theorem dX11_held_12 : decode cX11_held 12 = .ok (.bipush (-2), 2) := by decide +kernel
theorem dX11_held_14 : decode cX11_held 14 = .ok (.ireturn, 1) := by decide +kernel
theorem dX11_held_15 : decode cX11_held 15 = .ok (.aload_n 0, 1) := by decide +kernel
theorem dX11_held_16 : decode cX11_held 16 = .ok (.iload_n 2, 1) := by decide +kernel
theorem dX11_held_17 : decode cX11_held 17 = .ok (.invokevirtual 347, 3) := by decide +kernel
theorem dX11_held_20 : decode cX11_held 20 = .ok (.ifCond .eq 25, 3) := by decide +kernel
theorem dX11_held_23 : decode cX11_held 23 = .ok (.iload_n 1, 1) := by decide +kernel
theorem dX11_held_24 : decode cX11_held 24 = .ok (.i2l, 1) := by decide +kernel
theorem dX11_held_25 : decode cX11_held 25 = .ok (.lconst 0, 1) := by decide +kernel
theorem dX11_held_26 : decode cX11_held 26 = .ok (.iconst 1, 1) := by decide +kernel
theorem dX11_held_27 : decode cX11_held 27 = .ok (.aload_n 0, 1) := by decide +kernel
theorem dX11_held_28 : decode cX11_held 28 = .ok (.aload_n 0, 1) := by decide +kernel
theorem dX11_held_29 : decode cX11_held 29 = .ok (.getfield 220, 3) := by decide +kernel
theorem dX11_held_32 : decode cX11_held 32 = .ok (.invokevirtual 386, 3) := by decide +kernel
theorem dX11_held_35 : decode cX11_held 35 = .ok (.ishl, 1) := by decide +kernel
theorem dX11_held_36 : decode cX11_held 36 = .ok (.iconst 1, 1) := by decide +kernel
theorem dX11_held_37 : decode cX11_held 37 = .ok (.isub, 1) := by decide +kernel
theorem dX11_held_38 : decode cX11_held 38 = .ok (.i2l, 1) := by decide +kernel
theorem dX11_held_39 : decode cX11_held 39 = .ok (.invokestatic 132, 3) := by decide +kernel
theorem dX11_held_42 : decode cX11_held 42 = .ok (.ifCond .ne 5, 3) := by decide +kernel
theorem dX11_held_45 : decode cX11_held 45 = .ok (.iconst (-1), 1) := by decide +kernel
theorem dX11_held_46 : decode cX11_held 46 = .ok (.ireturn, 1) := by decide +kernel
theorem dX11_held_47 : decode cX11_held 47 = .ok (.aload_n 0, 1) := by decide +kernel
theorem dX11_held_48 : decode cX11_held 48 = .ok (.iconst 1, 1) := by decide +kernel
theorem dX11_held_49 : decode cX11_held 49 = .ok (.iload_n 1, 1) := by decide +kernel
theorem dX11_held_50 : decode cX11_held 50 = .ok (.invokevirtual 389, 3) := by decide +kernel
theorem dX11_held_53 : decode cX11_held 53 = .ok (.aload_n 0, 1) := by decide +kernel
theorem dX11_held_54 : decode cX11_held 54 = .ok (.getfield 26, 3) := by decide +kernel
theorem dX11_held_57 : decode cX11_held 57 = .ok (.iload_n 2, 1) := by decide +kernel
theorem dX11_held_58 : decode cX11_held 58 = .ok (.iaload, 1) := by decide +kernel
theorem dX11_held_59 : decode cX11_held 59 = .ok (.ireturn, 1) := by decide +kernel
theorem dX11_here_0 : decode cX11_here 0 = .ok (.aload_n 0, 1) := by decide +kernel
theorem dX11_here_1 : decode cX11_here 1 = .ok (.getfield 95, 3) := by decide +kernel
theorem dX11_here_4 : decode cX11_here 4 = .ok (.aload_n 0, 1) := by decide +kernel
theorem dX11_here_5 : decode cX11_here 5 = .ok (.getfield 84, 3) := by decide +kernel
theorem dX11_here_8 : decode cX11_here 8 = .ok (.if_icmp .ge 19, 3) := by decide +kernel
theorem dX11_here_11 : decode cX11_here 11 = .ok (.aload_n 0, 1) := by decide +kernel
theorem dX11_here_12 : decode cX11_here 12 = .ok (.getfield 9, 3) := by decide +kernel
theorem dX11_here_15 : decode cX11_here 15 = .ok (.aload_n 0, 1) := by decide +kernel
theorem dX11_here_16 : decode cX11_here 16 = .ok (.getfield 95, 3) := by decide +kernel
theorem dX11_here_19 : decode cX11_here 19 = .ok (.baload, 1) := by decide +kernel
theorem dX11_here_20 : decode cX11_here 20 = .ok (.sipush 255, 3) := by decide +kernel
theorem dX11_here_23 : decode cX11_here 23 = .ok (.iand, 1) := by decide +kernel
theorem dX11_here_24 : decode cX11_here 24 = .ok (.goto 4, 3) := by decide +kernel
theorem dX11_here_27 : decode cX11_here 27 = .ok (.iconst (-1), 1) := by decide +kernel
theorem dX11_here_28 : decode cX11_here 28 = .ok (.ireturn, 1) := by decide +kernel
theorem dX11_image_0 : decode cX11_image 0 = .ok (.aload_n 0, 1) := by decide +kernel
theorem dX11_image_1 : decode cX11_image 1 = .ok (.iconst 0, 1) := by decide +kernel
theorem dX11_image_2 : decode cX11_image 2 = .ok (.putfield 80, 3) := by decide +kernel
theorem dX11_image_5 : decode cX11_image 5 = .ok (.aload_n 0, 1) := by decide +kernel
theorem dX11_image_6 : decode cX11_image 6 = .ok (.getfield 232, 3) := by decide +kernel
theorem dX11_image_9 : decode cX11_image 9 = .ok (.ifCond .ne 5, 3) := by decide +kernel
theorem dX11_image_12 : decode cX11_image 12 = .ok (.iconst (-1), 1) := by decide +kernel
theorem dX11_image_13 : decode cX11_image 13 = .ok (.ireturn, 1) := by decide +kernel
theorem dX11_image_14 : decode cX11_image 14 = .ok (.iconst 0, 1) := by decide +kernel
theorem dX11_image_15 : decode cX11_image 15 = .ok (.istore_n 1, 1) := by decide +kernel
theorem dX11_image_16 : decode cX11_image 16 = .ok (.iload_n 1, 1) := by decide +kernel
theorem dX11_image_17 : decode cX11_image 17 = .ok (.sipush 2126, 3) := by decide +kernel
theorem dX11_image_20 : decode cX11_image 20 = .ok (.if_icmp .ge 21, 3) := by decide +kernel
theorem dX11_image_23 : decode cX11_image 23 = .ok (.aload_n 0, 1) := by decide +kernel
theorem dX11_image_24 : decode cX11_image 24 = .ok (.getfield 60, 3) := by decide +kernel
theorem dX11_image_27 : decode cX11_image 27 = .ok (.iload_n 1, 1) := by decide +kernel
theorem dX11_image_28 : decode cX11_image 28 = .ok (.aload_n 0, 1) := by decide +kernel
theorem dX11_image_29 : decode cX11_image 29 = .ok (.getfield 57, 3) := by decide +kernel
theorem dX11_image_32 : decode cX11_image 32 = .ok (.iload_n 1, 1) := by decide +kernel
theorem dX11_image_33 : decode cX11_image 33 = .ok (.iaload, 1) := by decide +kernel
theorem dX11_image_34 : decode cX11_image 34 = .ok (.iastore, 1) := by decide +kernel
theorem dX11_image_35 : decode cX11_image 35 = .ok (.iinc 1 1, 3) := by decide +kernel
theorem dX11_image_38 : decode cX11_image 38 = .ok (.goto (-22), 3) := by decide +kernel
theorem dX11_image_41 : decode cX11_image 41 = .ok (.aload_n 0, 1) := by decide +kernel
theorem dX11_image_42 : decode cX11_image 42 = .ok (.aload_n 0, 1) := by decide +kernel
theorem dX11_image_43 : decode cX11_image 43 = .ok (.getfield 320, 3) := by decide +kernel
theorem dX11_image_46 : decode cX11_image 46 = .ok (.putfield 352, 3) := by decide +kernel
theorem dX11_image_49 : decode cX11_image 49 = .ok (.aload_n 0, 1) := by decide +kernel
theorem dX11_image_50 : decode cX11_image 50 = .ok (.iconst 1, 1) := by decide +kernel
theorem dX11_image_51 : decode cX11_image 51 = .ok (.putfield 242, 3) := by decide +kernel
theorem dX11_image_54 : decode cX11_image 54 = .ok (.aload_n 0, 1) := by decide +kernel
theorem dX11_image_55 : decode cX11_image 55 = .ok (.getfield 57, 3) := by decide +kernel
theorem dX11_image_58 : decode cX11_image 58 = .ok (.bipush 72, 2) := by decide +kernel
theorem dX11_image_60 : decode cX11_image 60 = .ok (.iaload, 1) := by decide +kernel
theorem dX11_image_61 : decode cX11_image 61 = .ok (.ireturn, 1) := by decide +kernel
theorem dX11_isDigit_0 : decode cX11_isDigit 0 = .ok (.iload_n 0, 1) := by decide +kernel
theorem dX11_isDigit_1 : decode cX11_isDigit 1 = .ok (.bipush 48, 2) := by decide +kernel
theorem dX11_isDigit_3 : decode cX11_isDigit 3 = .ok (.if_icmp .lt 13, 3) := by decide +kernel
theorem dX11_isDigit_6 : decode cX11_isDigit 6 = .ok (.iload_n 0, 1) := by decide +kernel
theorem dX11_isDigit_7 : decode cX11_isDigit 7 = .ok (.bipush 57, 2) := by decide +kernel
theorem dX11_isDigit_9 : decode cX11_isDigit 9 = .ok (.if_icmp .gt 7, 3) := by decide +kernel
theorem dX11_isDigit_12 : decode cX11_isDigit 12 = .ok (.iconst 1, 1) := by decide +kernel
theorem dX11_isDigit_13 : decode cX11_isDigit 13 = .ok (.goto 4, 3) := by decide +kernel
theorem dX11_isDigit_16 : decode cX11_isDigit 16 = .ok (.iconst 0, 1) := by decide +kernel
theorem dX11_isDigit_17 : decode cX11_isDigit 17 = .ok (.ireturn, 1) := by decide +kernel
theorem dX11_isIn_0 : decode cX11_isIn 0 = .ok (.lload_n 0, 1) := by decide +kernel
theorem dX11_isIn_1 : decode cX11_isIn 1 = .ok (.lload_n 2, 1) := by decide +kernel
theorem dX11_isIn_2 : decode cX11_isIn 2 = .ok (.lcmp, 1) := by decide +kernel
theorem dX11_isIn_3 : decode cX11_isIn 3 = .ok (.ifCond .lt 14, 3) := by decide +kernel
theorem dX11_isIn_6 : decode cX11_isIn 6 = .ok (.lload_n 0, 1) := by decide +kernel
theorem dX11_isIn_7 : decode cX11_isIn 7 = .ok (.lload 4, 2) := by decide +kernel
theorem dX11_isIn_9 : decode cX11_isIn 9 = .ok (.lcmp, 1) := by decide +kernel
theorem dX11_isIn_10 : decode cX11_isIn 10 = .ok (.ifCond .gt 7, 3) := by decide +kernel
theorem dX11_isIn_13 : decode cX11_isIn 13 = .ok (.iconst 1, 1) := by decide +kernel
theorem dX11_isIn_14 : decode cX11_isIn 14 = .ok (.goto 4, 3) := by decide +kernel
theorem dX11_isIn_17 : decode cX11_isIn 17 = .ok (.iconst 0, 1) := by decide +kernel
theorem dX11_isIn_18 : decode cX11_isIn 18 = .ok (.ireturn, 1) := by decide +kernel
theorem dX11_isPeer_0 : decode cX11_isPeer 0 = .ok (.aload_n 0, 1) := by decide +kernel
theorem dX11_isPeer_1 : decode cX11_isPeer 1 = .ok (.getfield 232, 3) := by decide +kernel
theorem dX11_isPeer_4 : decode cX11_isPeer 4 = .ok (.ifCond .eq 23, 3) := by decide +kernel
theorem dX11_isPeer_7 : decode cX11_isPeer 7 = .ok (.iload_n 1, 1) := by decide +kernel
theorem dX11_isPeer_8 : decode cX11_isPeer 8 = .ok (.i2l, 1) := by decide +kernel
theorem dX11_isPeer_9 : decode cX11_isPeer 9 = .ok (.lconst 0, 1) := by decide +kernel
theorem dX11_isPeer_10 : decode cX11_isPeer 10 = .ok (.aload_n 0, 1) := by decide +kernel
theorem dX11_isPeer_11 : decode cX11_isPeer 11 = .ok (.getfield 215, 3) := by decide +kernel
theorem dX11_isPeer_14 : decode cX11_isPeer 14 = .ok (.iconst 1, 1) := by decide +kernel
theorem dX11_isPeer_15 : decode cX11_isPeer 15 = .ok (.isub, 1) := by decide +kernel
theorem dX11_isPeer_16 : decode cX11_isPeer 16 = .ok (.i2l, 1) := by decide +kernel
theorem dX11_isPeer_17 : decode cX11_isPeer 17 = .ok (.invokestatic 132, 3) := by decide +kernel
theorem dX11_isPeer_20 : decode cX11_isPeer 20 = .ok (.ifCond .eq 7, 3) := by decide +kernel
theorem dX11_isPeer_23 : decode cX11_isPeer 23 = .ok (.iconst 1, 1) := by decide +kernel
theorem dX11_isPeer_24 : decode cX11_isPeer 24 = .ok (.goto 4, 3) := by decide +kernel
theorem dX11_isPeer_27 : decode cX11_isPeer 27 = .ok (.iconst 0, 1) := by decide +kernel
theorem dX11_isPeer_28 : decode cX11_isPeer 28 = .ok (.ireturn, 1) := by decide +kernel
theorem dX11_isRound_0 : decode cX11_isRound 0 = .ok (.aload_n 0, 1) := by decide +kernel
theorem dX11_isRound_1 : decode cX11_isRound 1 = .ok (.getfield 232, 3) := by decide +kernel
theorem dX11_isRound_4 : decode cX11_isRound 4 = .ok (.ifCond .eq 39, 3) := by decide +kernel
theorem dX11_isRound_7 : decode cX11_isRound 7 = .ok (.iload_n 1, 1) := by decide +kernel
theorem dX11_isRound_8 : decode cX11_isRound 8 = .ok (.i2l, 1) := by decide +kernel
theorem dX11_isRound_9 : decode cX11_isRound 9 = .ok (.lconst 0, 1) := by decide +kernel
theorem dX11_isRound_10 : decode cX11_isRound 10 = .ok (.aload_n 0, 1) := by decide +kernel
theorem dX11_isRound_11 : decode cX11_isRound 11 = .ok (.getfield 220, 3) := by decide +kernel
theorem dX11_isRound_14 : decode cX11_isRound 14 = .ok (.iconst 1, 1) := by decide +kernel
theorem dX11_isRound_15 : decode cX11_isRound 15 = .ok (.isub, 1) := by decide +kernel
theorem dX11_isRound_16 : decode cX11_isRound 16 = .ok (.i2l, 1) := by decide +kernel
theorem dX11_isRound_17 : decode cX11_isRound 17 = .ok (.invokestatic 132, 3) := by decide +kernel
theorem dX11_isRound_20 : decode cX11_isRound 20 = .ok (.ifCond .eq 23, 3) := by decide +kernel
theorem dX11_isRound_23 : decode cX11_isRound 23 = .ok (.iload_n 2, 1) := by decide +kernel
theorem dX11_isRound_24 : decode cX11_isRound 24 = .ok (.i2l, 1) := by decide +kernel
theorem dX11_isRound_25 : decode cX11_isRound 25 = .ok (.lconst 0, 1) := by decide +kernel
theorem dX11_isRound_26 : decode cX11_isRound 26 = .ok (.aload_n 0, 1) := by decide +kernel
theorem dX11_isRound_27 : decode cX11_isRound 27 = .ok (.invokevirtual 287, 3) := by decide +kernel
theorem dX11_isRound_30 : decode cX11_isRound 30 = .ok (.iconst 1, 1) := by decide +kernel
theorem dX11_isRound_31 : decode cX11_isRound 31 = .ok (.isub, 1) := by decide +kernel
theorem dX11_isRound_32 : decode cX11_isRound 32 = .ok (.i2l, 1) := by decide +kernel
theorem dX11_isRound_33 : decode cX11_isRound 33 = .ok (.invokestatic 132, 3) := by decide +kernel
theorem dX11_isRound_36 : decode cX11_isRound 36 = .ok (.ifCond .eq 7, 3) := by decide +kernel
theorem dX11_isRound_39 : decode cX11_isRound 39 = .ok (.iconst 1, 1) := by decide +kernel
theorem dX11_isRound_40 : decode cX11_isRound 40 = .ok (.goto 4, 3) := by decide +kernel
theorem dX11_isRound_43 : decode cX11_isRound 43 = .ok (.iconst 0, 1) := by decide +kernel
theorem dX11_isRound_44 : decode cX11_isRound 44 = .ok (.ireturn, 1) := by decide +kernel
theorem dX11_letters_0 : decode cX11_letters 0 = .ok (.aload_n 0, 1) := by decide +kernel
theorem dX11_letters_1 : decode cX11_letters 1 = .ok (.iconst 0, 1) := by decide +kernel
theorem dX11_letters_2 : decode cX11_letters 2 = .ok (.putfield 80, 3) := by decide +kernel
theorem dX11_letters_5 : decode cX11_letters 5 = .ok (.aload_n 0, 1) := by decide +kernel
theorem dX11_letters_6 : decode cX11_letters 6 = .ok (.getfield 232, 3) := by decide +kernel
theorem dX11_letters_9 : decode cX11_letters 9 = .ok (.ifCond .ne 5, 3) := by decide +kernel
theorem dX11_letters_12 : decode cX11_letters 12 = .ok (.iconst (-1), 1) := by decide +kernel
theorem dX11_letters_13 : decode cX11_letters 13 = .ok (.ireturn, 1) := by decide +kernel
theorem dX11_letters_14 : decode cX11_letters 14 = .ok (.iload_n 1, 1) := by decide +kernel
theorem dX11_letters_15 : decode cX11_letters 15 = .ok (.tableswitch 81 0 3 #[29, 37, 45, 54], 29) := by decide +kernel
theorem dX11_letters_44 : decode cX11_letters 44 = .ok (.aload_n 0, 1) := by decide +kernel
theorem dX11_letters_45 : decode cX11_letters 45 = .ok (.getfield 57, 3) := by decide +kernel
theorem dX11_letters_48 : decode cX11_letters 48 = .ok (.bipush 73, 2) := by decide +kernel
theorem dX11_letters_50 : decode cX11_letters 50 = .ok (.iaload, 1) := by decide +kernel
theorem dX11_letters_51 : decode cX11_letters 51 = .ok (.ireturn, 1) := by decide +kernel
theorem dX11_letters_52 : decode cX11_letters 52 = .ok (.aload_n 0, 1) := by decide +kernel
theorem dX11_letters_53 : decode cX11_letters 53 = .ok (.getfield 57, 3) := by decide +kernel
theorem dX11_letters_56 : decode cX11_letters 56 = .ok (.bipush 74, 2) := by decide +kernel
theorem dX11_letters_58 : decode cX11_letters 58 = .ok (.iaload, 1) := by decide +kernel
theorem dX11_letters_59 : decode cX11_letters 59 = .ok (.ireturn, 1) := by decide +kernel
theorem dX11_letters_60 : decode cX11_letters 60 = .ok (.aload_n 0, 1) := by decide +kernel
theorem dX11_letters_61 : decode cX11_letters 61 = .ok (.aload_n 0, 1) := by decide +kernel
theorem dX11_letters_62 : decode cX11_letters 62 = .ok (.getfield 212, 3) := by decide +kernel
theorem dX11_letters_65 : decode cX11_letters 65 = .ok (.invokevirtual 378, 3) := by decide +kernel
theorem dX11_letters_68 : decode cX11_letters 68 = .ok (.ireturn, 1) := by decide +kernel
theorem dX11_letters_69 : decode cX11_letters 69 = .ok (.aload_n 0, 1) := by decide +kernel
theorem dX11_letters_70 : decode cX11_letters 70 = .ok (.invokevirtual 358, 3) := by decide +kernel
theorem dX11_letters_73 : decode cX11_letters 73 = .ok (.ifCond .ne 7, 3) := by decide +kernel
theorem dX11_letters_76 : decode cX11_letters 76 = .ok (.iconst 0, 1) := by decide +kernel
theorem dX11_letters_77 : decode cX11_letters 77 = .ok (.goto 18, 3) := by decide +kernel
theorem dX11_letters_80 : decode cX11_letters 80 = .ok (.aload_n 0, 1) := by decide +kernel
theorem dX11_letters_81 : decode cX11_letters 81 = .ok (.getfield 57, 3) := by decide +kernel
theorem dX11_letters_84 : decode cX11_letters 84 = .ok (.sipush 1970, 3) := by decide +kernel
theorem dX11_letters_87 : decode cX11_letters 87 = .ok (.aload_n 0, 1) := by decide +kernel
theorem dX11_letters_88 : decode cX11_letters 88 = .ok (.invokevirtual 358, 3) := by decide +kernel
theorem dX11_letters_91 : decode cX11_letters 91 = .ok (.iadd, 1) := by decide +kernel
theorem dX11_letters_92 : decode cX11_letters 92 = .ok (.iconst 1, 1) := by decide +kernel
theorem dX11_letters_93 : decode cX11_letters 93 = .ok (.isub, 1) := by decide +kernel
theorem dX11_letters_94 : decode cX11_letters 94 = .ok (.iaload, 1) := by decide +kernel
theorem dX11_letters_95 : decode cX11_letters 95 = .ok (.ireturn, 1) := by decide +kernel
theorem dX11_letters_96 : decode cX11_letters 96 = .ok (.iconst (-1), 1) := by decide +kernel
theorem dX11_letters_97 : decode cX11_letters 97 = .ok (.ireturn, 1) := by decide +kernel
theorem dX11_look_0 : decode cX11_look 0 = .ok (.aload_n 0, 1) := by decide +kernel
theorem dX11_look_1 : decode cX11_look 1 = .ok (.invokevirtual 98, 3) := by decide +kernel
theorem dX11_look_4 : decode cX11_look 4 = .ok (.bipush 32, 2) := by decide +kernel
theorem dX11_look_6 : decode cX11_look 6 = .ok (.if_icmp .ne 16, 3) := by decide +kernel
theorem dX11_look_9 : decode cX11_look 9 = .ok (.aload_n 0, 1) := by decide +kernel
theorem dX11_look_10 : decode cX11_look 10 = .ok (.dup, 1) := by decide +kernel
theorem dX11_look_11 : decode cX11_look 11 = .ok (.getfield 95, 3) := by decide +kernel
theorem dX11_look_14 : decode cX11_look 14 = .ok (.iconst 1, 1) := by decide +kernel
theorem dX11_look_15 : decode cX11_look 15 = .ok (.iadd, 1) := by decide +kernel
theorem dX11_look_16 : decode cX11_look 16 = .ok (.putfield 95, 3) := by decide +kernel
theorem dX11_look_19 : decode cX11_look 19 = .ok (.goto (-19), 3) := by decide +kernel
theorem dX11_look_22 : decode cX11_look 22 = .ok (.aload_n 0, 1) := by decide +kernel
theorem dX11_look_23 : decode cX11_look 23 = .ok (.invokevirtual 98, 3) := by decide +kernel
theorem dX11_look_26 : decode cX11_look 26 = .ok (.ireturn, 1) := by decide +kernel
theorem dX11_most_0 : decode cX11_most 0 = .ok (.aload_n 0, 1) := by decide +kernel
theorem dX11_most_1 : decode cX11_most 1 = .ok (.iconst 0, 1) := by decide +kernel
theorem dX11_most_2 : decode cX11_most 2 = .ok (.putfield 80, 3) := by decide +kernel
theorem dX11_most_5 : decode cX11_most 5 = .ok (.aload_n 0, 1) := by decide +kernel
theorem dX11_most_6 : decode cX11_most 6 = .ok (.getfield 232, 3) := by decide +kernel
theorem dX11_most_9 : decode cX11_most 9 = .ok (.ifCond .eq 15, 3) := by decide +kernel
theorem dX11_most_12 : decode cX11_most 12 = .ok (.iload_n 1, 1) := by decide +kernel
theorem dX11_most_13 : decode cX11_most 13 = .ok (.i2l, 1) := by decide +kernel
theorem dX11_most_14 : decode cX11_most 14 = .ok (.lconst 0, 1) := by decide +kernel
theorem dX11_most_15 : decode cX11_most 15 = .ok (.ldc2_w 355, 3) := by decide +kernel
theorem dX11_most_18 : decode cX11_most 18 = .ok (.invokestatic 132, 3) := by decide +kernel
theorem dX11_most_21 : decode cX11_most 21 = .ok (.ifCond .ne 5, 3) := by decide +kernel
theorem dX11_most_24 : decode cX11_most 24 = .ok (.iconst (-1), 1) := by decide +kernel
theorem dX11_most_25 : decode cX11_most 25 = .ok (.ireturn, 1) := by decide +kernel
theorem dX11_most_26 : decode cX11_most 26 = .ok (.iload_n 1, 1) := by decide +kernel
theorem dX11_most_27 : decode cX11_most 27 = .ok (.iconst 2, 1) := by decide +kernel
theorem dX11_most_28 : decode cX11_most 28 = .ok (.if_icmp .ge 18, 3) := by decide +kernel
theorem dX11_most_31 : decode cX11_most 31 = .ok (.aload_n 0, 1) := by decide +kernel
theorem dX11_most_32 : decode cX11_most 32 = .ok (.iload_n 1, 1) := by decide +kernel
theorem dX11_most_33 : decode cX11_most 33 = .ok (.iconst 1, 1) := by decide +kernel
theorem dX11_most_34 : decode cX11_most 34 = .ok (.if_icmp .ne 7, 3) := by decide +kernel
theorem dX11_most_37 : decode cX11_most 37 = .ok (.iconst 1, 1) := by decide +kernel
theorem dX11_most_38 : decode cX11_most 38 = .ok (.goto 4, 3) := by decide +kernel
theorem dX11_most_41 : decode cX11_most 41 = .ok (.iconst 0, 1) := by decide +kernel
theorem dX11_most_42 : decode cX11_most 42 = .ok (.invokevirtual 460, 3) := by decide +kernel
theorem dX11_most_45 : decode cX11_most 45 = .ok (.ireturn, 1) := by decide +kernel
theorem dX11_most_46 : decode cX11_most 46 = .ok (.iload_n 1, 1) := by decide +kernel
theorem dX11_most_47 : decode cX11_most 47 = .ok (.iconst 3, 1) := by decide +kernel
theorem dX11_most_48 : decode cX11_most 48 = .ok (.if_icmp .ne 8, 3) := by decide +kernel
theorem dX11_most_51 : decode cX11_most 51 = .ok (.aload_n 0, 1) := by decide +kernel
theorem dX11_most_52 : decode cX11_most 52 = .ok (.invokevirtual 464, 3) := by decide +kernel
theorem dX11_most_55 : decode cX11_most 55 = .ok (.ireturn, 1) := by decide +kernel
theorem dX11_most_56 : decode cX11_most 56 = .ok (.iconst 0, 1) := by decide +kernel
theorem dX11_most_57 : decode cX11_most 57 = .ok (.istore_n 2, 1) := by decide +kernel
theorem dX11_most_58 : decode cX11_most 58 = .ok (.iconst (-1), 1) := by decide +kernel
theorem dX11_most_59 : decode cX11_most 59 = .ok (.istore_n 3, 1) := by decide +kernel
theorem dX11_most_60 : decode cX11_most 60 = .ok (.iconst 0, 1) := by decide +kernel
theorem dX11_most_61 : decode cX11_most 61 = .ok (.istore 4, 2) := by decide +kernel
theorem dX11_most_63 : decode cX11_most 63 = .ok (.iload 4, 2) := by decide +kernel
theorem dX11_most_65 : decode cX11_most 65 = .ok (.aload_n 0, 1) := by decide +kernel
theorem dX11_most_66 : decode cX11_most 66 = .ok (.invokevirtual 358, 3) := by decide +kernel
theorem dX11_most_69 : decode cX11_most 69 = .ok (.if_icmp .ge 60, 3) := by decide +kernel
theorem dX11_most_72 : decode cX11_most 72 = .ok (.iload_n 2, 1) := by decide +kernel
theorem dX11_most_73 : decode cX11_most 73 = .ok (.aload_n 0, 1) := by decide +kernel
theorem dX11_most_74 : decode cX11_most 74 = .ok (.iload 4, 2) := by decide +kernel
theorem dX11_most_76 : decode cX11_most 76 = .ok (.iconst 1, 1) := by decide +kernel
theorem dX11_most_77 : decode cX11_most 77 = .ok (.iconst 0, 1) := by decide +kernel
theorem dX11_most_78 : decode cX11_most 78 = .ok (.invokevirtual 439, 3) := by decide +kernel
theorem dX11_most_81 : decode cX11_most 81 = .ok (.ifCond .le 7, 3) := by decide +kernel
theorem dX11_most_84 : decode cX11_most 84 = .ok (.iconst 1, 1) := by decide +kernel
theorem dX11_most_85 : decode cX11_most 85 = .ok (.goto 4, 3) := by decide +kernel
theorem dX11_most_88 : decode cX11_most 88 = .ok (.iconst 0, 1) := by decide +kernel
theorem dX11_most_89 : decode cX11_most 89 = .ok (.iadd, 1) := by decide +kernel
theorem dX11_most_90 : decode cX11_most 90 = .ok (.istore_n 2, 1) := by decide +kernel
theorem dX11_most_91 : decode cX11_most 91 = .ok (.iload_n 3, 1) := by decide +kernel
theorem dX11_most_92 : decode cX11_most 92 = .ok (.iconst (-1), 1) := by decide +kernel
theorem dX11_most_93 : decode cX11_most 93 = .ok (.if_icmp .eq 23, 3) := by decide +kernel
theorem dX11_most_96 : decode cX11_most 96 = .ok (.aload_n 0, 1) := by decide +kernel
theorem dX11_most_97 : decode cX11_most 97 = .ok (.iload 4, 2) := by decide +kernel
theorem dX11_most_99 : decode cX11_most 99 = .ok (.bipush 7, 2) := by decide +kernel
theorem dX11_most_101 : decode cX11_most 101 = .ok (.iconst 1, 1) := by decide +kernel
theorem dX11_most_102 : decode cX11_most 102 = .ok (.invokevirtual 439, 3) := by decide +kernel
theorem dX11_most_105 : decode cX11_most 105 = .ok (.aload_n 0, 1) := by decide +kernel
theorem dX11_most_106 : decode cX11_most 106 = .ok (.iload_n 3, 1) := by decide +kernel
theorem dX11_most_107 : decode cX11_most 107 = .ok (.bipush 7, 2) := by decide +kernel
theorem dX11_most_109 : decode cX11_most 109 = .ok (.iconst 1, 1) := by decide +kernel
theorem dX11_most_110 : decode cX11_most 110 = .ok (.invokevirtual 439, 3) := by decide +kernel
theorem dX11_most_113 : decode cX11_most 113 = .ok (.if_icmp .le 8, 3) := by decide +kernel
theorem dX11_most_116 : decode cX11_most 116 = .ok (.iload 4, 2) := by decide +kernel
theorem dX11_most_118 : decode cX11_most 118 = .ok (.goto 4, 3) := by decide +kernel
theorem dX11_most_121 : decode cX11_most 121 = .ok (.iload_n 3, 1) := by decide +kernel
theorem dX11_most_122 : decode cX11_most 122 = .ok (.istore_n 3, 1) := by decide +kernel
theorem dX11_most_123 : decode cX11_most 123 = .ok (.iinc 4 1, 3) := by decide +kernel
theorem dX11_most_126 : decode cX11_most 126 = .ok (.goto (-63), 3) := by decide +kernel
theorem dX11_most_129 : decode cX11_most 129 = .ok (.iload_n 1, 1) := by decide +kernel
theorem dX11_most_130 : decode cX11_most 130 = .ok (.iconst 2, 1) := by decide +kernel
theorem dX11_most_131 : decode cX11_most 131 = .ok (.if_icmp .ne 7, 3) := by decide +kernel
theorem dX11_most_134 : decode cX11_most 134 = .ok (.iload_n 2, 1) := by decide +kernel
theorem dX11_most_135 : decode cX11_most 135 = .ok (.goto 4, 3) := by decide +kernel
theorem dX11_most_138 : decode cX11_most 138 = .ok (.iload_n 3, 1) := by decide +kernel
theorem dX11_most_139 : decode cX11_most 139 = .ok (.ireturn, 1) := by decide +kernel
theorem dX11_needed_0 : decode cX11_needed 0 = .ok (.aload_n 0, 1) := by decide +kernel
theorem dX11_needed_1 : decode cX11_needed 1 = .ok (.iconst 0, 1) := by decide +kernel
theorem dX11_needed_2 : decode cX11_needed 2 = .ok (.putfield 80, 3) := by decide +kernel
theorem dX11_needed_5 : decode cX11_needed 5 = .ok (.aload_n 0, 1) := by decide +kernel
theorem dX11_needed_6 : decode cX11_needed 6 = .ok (.getfield 232, 3) := by decide +kernel
theorem dX11_needed_9 : decode cX11_needed 9 = .ok (.ifCond .ne 5, 3) := by decide +kernel
theorem dX11_needed_12 : decode cX11_needed 12 = .ok (.iconst (-1), 1) := by decide +kernel
theorem dX11_needed_13 : decode cX11_needed 13 = .ok (.ireturn, 1) := by decide +kernel
theorem dX11_needed_14 : decode cX11_needed 14 = .ok (.aload_n 0, 1) := by decide +kernel
theorem dX11_needed_15 : decode cX11_needed 15 = .ok (.invokevirtual 329, 3) := by decide +kernel
theorem dX11_needed_18 : decode cX11_needed 18 = .ok (.aload_n 0, 1) := by decide +kernel
theorem dX11_needed_19 : decode cX11_needed 19 = .ok (.getfield 220, 3) := by decide +kernel
theorem dX11_needed_22 : decode cX11_needed 22 = .ok (.istore_n 1, 1) := by decide +kernel
theorem dX11_needed_23 : decode cX11_needed 23 = .ok (.iconst (-1), 1) := by decide +kernel
theorem dX11_needed_24 : decode cX11_needed 24 = .ok (.istore_n 2, 1) := by decide +kernel
theorem dX11_needed_25 : decode cX11_needed 25 = .ok (.iconst 1, 1) := by decide +kernel
theorem dX11_needed_26 : decode cX11_needed 26 = .ok (.istore_n 3, 1) := by decide +kernel
theorem dX11_needed_27 : decode cX11_needed 27 = .ok (.iload_n 3, 1) := by decide +kernel
theorem dX11_needed_28 : decode cX11_needed 28 = .ok (.bipush 6, 2) := by decide +kernel
theorem dX11_needed_30 : decode cX11_needed 30 = .ok (.if_icmp .gt 39, 3) := by decide +kernel
theorem dX11_needed_33 : decode cX11_needed 33 = .ok (.iload_n 2, 1) := by decide +kernel
theorem dX11_needed_34 : decode cX11_needed 34 = .ok (.iconst (-1), 1) := by decide +kernel
theorem dX11_needed_35 : decode cX11_needed 35 = .ok (.if_icmp .ne 34, 3) := by decide +kernel
theorem dX11_needed_38 : decode cX11_needed 38 = .ok (.aload_n 0, 1) := by decide +kernel
theorem dX11_needed_39 : decode cX11_needed 39 = .ok (.iload_n 3, 1) := by decide +kernel
theorem dX11_needed_40 : decode cX11_needed 40 = .ok (.invokevirtual 386, 3) := by decide +kernel
theorem dX11_needed_43 : decode cX11_needed 43 = .ok (.bipush 12, 2) := by decide +kernel
theorem dX11_needed_45 : decode cX11_needed 45 = .ok (.if_icmp .gt 24, 3) := by decide +kernel
theorem dX11_needed_48 : decode cX11_needed 48 = .ok (.aload_n 0, 1) := by decide +kernel
theorem dX11_needed_49 : decode cX11_needed 49 = .ok (.iload_n 3, 1) := by decide +kernel
theorem dX11_needed_50 : decode cX11_needed 50 = .ok (.putfield 220, 3) := by decide +kernel
theorem dX11_needed_53 : decode cX11_needed 53 = .ok (.aload_n 0, 1) := by decide +kernel
theorem dX11_needed_54 : decode cX11_needed 54 = .ok (.invokevirtual 399, 3) := by decide +kernel
theorem dX11_needed_57 : decode cX11_needed 57 = .ok (.iconst (-1), 1) := by decide +kernel
theorem dX11_needed_58 : decode cX11_needed 58 = .ok (.if_icmp .ne 5, 3) := by decide +kernel
theorem dX11_needed_61 : decode cX11_needed 61 = .ok (.iload_n 3, 1) := by decide +kernel
theorem dX11_needed_62 : decode cX11_needed 62 = .ok (.istore_n 2, 1) := by decide +kernel
theorem dX11_needed_63 : decode cX11_needed 63 = .ok (.iinc 3 1, 3) := by decide +kernel
theorem dX11_needed_66 : decode cX11_needed 66 = .ok (.goto (-39), 3) := by decide +kernel
theorem dX11_needed_69 : decode cX11_needed 69 = .ok (.aload_n 0, 1) := by decide +kernel
theorem dX11_needed_70 : decode cX11_needed 70 = .ok (.iload_n 1, 1) := by decide +kernel
theorem dX11_needed_71 : decode cX11_needed 71 = .ok (.putfield 220, 3) := by decide +kernel
theorem dX11_needed_74 : decode cX11_needed 74 = .ok (.iload_n 2, 1) := by decide +kernel
theorem dX11_needed_75 : decode cX11_needed 75 = .ok (.ireturn, 1) := by decide +kernel
theorem dX11_over_0 : decode cX11_over 0 = .ok (.aload_n 0, 1) := by decide +kernel
theorem dX11_over_1 : decode cX11_over 1 = .ok (.getfield 232, 3) := by decide +kernel
theorem dX11_over_4 : decode cX11_over 4 = .ok (.ifCond .eq 18, 3) := by decide +kernel
theorem dX11_over_7 : decode cX11_over 7 = .ok (.aload_n 0, 1) := by decide +kernel
theorem dX11_over_8 : decode cX11_over 8 = .ok (.getfield 57, 3) := by decide +kernel
theorem dX11_over_11 : decode cX11_over 11 = .ok (.bipush 72, 2) := by decide +kernel
theorem dX11_over_13 : decode cX11_over 13 = .ok (.iaload, 1) := by decide +kernel
theorem dX11_over_14 : decode cX11_over 14 = .ok (.aload_n 0, 1) := by decide +kernel
theorem dX11_over_15 : decode cX11_over 15 = .ok (.invokevirtual 287, 3) := by decide +kernel
theorem dX11_over_18 : decode cX11_over 18 = .ok (.idiv, 1) := by decide +kernel
theorem dX11_over_19 : decode cX11_over 19 = .ok (.goto 4, 3) := by decide +kernel
theorem dX11_over_22 : decode cX11_over 22 = .ok (.iconst 0, 1) := by decide +kernel
theorem dX11_over_23 : decode cX11_over 23 = .ok (.ireturn, 1) := by decide +kernel
theorem dX11_peer_0 : decode cX11_peer 0 = .ok (.aload_n 0, 1) := by decide +kernel
theorem dX11_peer_1 : decode cX11_peer 1 = .ok (.iconst 0, 1) := by decide +kernel
theorem dX11_peer_2 : decode cX11_peer 2 = .ok (.putfield 80, 3) := by decide +kernel
theorem dX11_peer_5 : decode cX11_peer 5 = .ok (.aload_n 0, 1) := by decide +kernel
theorem dX11_peer_6 : decode cX11_peer 6 = .ok (.iload_n 1, 1) := by decide +kernel
theorem dX11_peer_7 : decode cX11_peer 7 = .ok (.invokevirtual 347, 3) := by decide +kernel
theorem dX11_peer_10 : decode cX11_peer 10 = .ok (.ifCond .ne 5, 3) := by decide +kernel
theorem dX11_peer_13 : decode cX11_peer 13 = .ok (.iconst (-1), 1) := by decide +kernel
theorem dX11_peer_14 : decode cX11_peer 14 = .ok (.ireturn, 1) := by decide +kernel
theorem dX11_peer_15 : decode cX11_peer 15 = .ok (.aload_n 0, 1) := by decide +kernel
theorem dX11_peer_16 : decode cX11_peer 16 = .ok (.invokevirtual 329, 3) := by decide +kernel
theorem dX11_peer_19 : decode cX11_peer 19 = .ok (.iload_n 2, 1) := by decide +kernel
theorem dX11_peer_20 : decode cX11_peer 20 = .ok (.tableswitch 69 0 3 #[32, 39, 46, 60], 32) := by decide +kernel
theorem dX11_peer_52 : decode cX11_peer 52 = .ok (.aload_n 0, 1) := by decide +kernel
theorem dX11_peer_53 : decode cX11_peer 53 = .ok (.getfield 26, 3) := by decide +kernel
theorem dX11_peer_56 : decode cX11_peer 56 = .ok (.iload_n 1, 1) := by decide +kernel
theorem dX11_peer_57 : decode cX11_peer 57 = .ok (.iaload, 1) := by decide +kernel
theorem dX11_peer_58 : decode cX11_peer 58 = .ok (.ireturn, 1) := by decide +kernel
theorem dX11_peer_59 : decode cX11_peer 59 = .ok (.aload_n 0, 1) := by decide +kernel
theorem dX11_peer_60 : decode cX11_peer 60 = .ok (.getfield 29, 3) := by decide +kernel
theorem dX11_peer_63 : decode cX11_peer 63 = .ok (.iload_n 1, 1) := by decide +kernel
theorem dX11_peer_64 : decode cX11_peer 64 = .ok (.iaload, 1) := by decide +kernel
theorem dX11_peer_65 : decode cX11_peer 65 = .ok (.ireturn, 1) := by decide +kernel
theorem dX11_peer_66 : decode cX11_peer 66 = .ok (.aload_n 0, 1) := by decide +kernel
theorem dX11_peer_67 : decode cX11_peer 67 = .ok (.iload_n 1, 1) := by decide +kernel
theorem dX11_peer_68 : decode cX11_peer 68 = .ok (.invokevirtual 274, 3) := by decide +kernel
theorem dX11_peer_71 : decode cX11_peer 71 = .ok (.ifCond .eq 7, 3) := by decide +kernel
theorem dX11_peer_74 : decode cX11_peer 74 = .ok (.iconst 1, 1) := by decide +kernel
theorem dX11_peer_75 : decode cX11_peer 75 = .ok (.goto 4, 3) := by decide +kernel
theorem dX11_peer_78 : decode cX11_peer 78 = .ok (.iconst 0, 1) := by decide +kernel
theorem dX11_peer_79 : decode cX11_peer 79 = .ok (.ireturn, 1) := by decide +kernel
theorem dX11_peer_80 : decode cX11_peer 80 = .ok (.aload_n 0, 1) := by decide +kernel
theorem dX11_peer_81 : decode cX11_peer 81 = .ok (.getfield 224, 3) := by decide +kernel
theorem dX11_peer_84 : decode cX11_peer 84 = .ok (.iload_n 1, 1) := by decide +kernel
theorem dX11_peer_85 : decode cX11_peer 85 = .ok (.ishr, 1) := by decide +kernel
theorem dX11_peer_86 : decode cX11_peer 86 = .ok (.iconst 1, 1) := by decide +kernel
theorem dX11_peer_87 : decode cX11_peer 87 = .ok (.iand, 1) := by decide +kernel
theorem dX11_peer_88 : decode cX11_peer 88 = .ok (.ireturn, 1) := by decide +kernel
theorem dX11_peer_89 : decode cX11_peer 89 = .ok (.iconst (-1), 1) := by decide +kernel
theorem dX11_peer_90 : decode cX11_peer 90 = .ok (.ireturn, 1) := by decide +kernel
theorem dX11_plan_0 : decode cX11_plan 0 = .ok (.aload_n 0, 1) := by decide +kernel
theorem dX11_plan_1 : decode cX11_plan 1 = .ok (.iconst 0, 1) := by decide +kernel
theorem dX11_plan_2 : decode cX11_plan 2 = .ok (.putfield 80, 3) := by decide +kernel
theorem dX11_plan_5 : decode cX11_plan 5 = .ok (.aload_n 0, 1) := by decide +kernel
theorem dX11_plan_6 : decode cX11_plan 6 = .ok (.invokevirtual 209, 3) := by decide +kernel
theorem dX11_plan_9 : decode cX11_plan 9 = .ok (.iconst (-1), 1) := by decide +kernel
theorem dX11_plan_10 : decode cX11_plan 10 = .ok (.if_icmp .eq 5, 3) := by decide +kernel
theorem dX11_plan_13 : decode cX11_plan 13 = .ok (.iconst (-1), 1) := by decide +kernel
theorem dX11_plan_14 : decode cX11_plan 14 = .ok (.ireturn, 1) := by decide +kernel
theorem dX11_plan_15 : decode cX11_plan 15 = .ok (.aload_n 0, 1) := by decide +kernel
theorem dX11_plan_16 : decode cX11_plan 16 = .ok (.iconst 0, 1) := by decide +kernel
theorem dX11_plan_17 : decode cX11_plan 17 = .ok (.putfield 84, 3) := by decide +kernel
theorem dX11_plan_20 : decode cX11_plan 20 = .ok (.iconst 0, 1) := by decide +kernel
theorem dX11_plan_21 : decode cX11_plan 21 = .ok (.istore_n 1, 1) := by decide +kernel
theorem dX11_plan_22 : decode cX11_plan 22 = .ok (.iload_n 1, 1) := by decide +kernel
theorem dX11_plan_23 : decode cX11_plan 23 = .ok (.aload_n 0, 1) := by decide +kernel
theorem dX11_plan_24 : decode cX11_plan 24 = .ok (.getfield 17, 3) := by decide +kernel
theorem dX11_plan_27 : decode cX11_plan 27 = .ok (.arraylength, 1) := by decide +kernel
theorem dX11_plan_28 : decode cX11_plan 28 = .ok (.if_icmp .ge 21, 3) := by decide +kernel
theorem dX11_plan_31 : decode cX11_plan 31 = .ok (.aload_n 0, 1) := by decide +kernel
theorem dX11_plan_32 : decode cX11_plan 32 = .ok (.getfield 17, 3) := by decide +kernel
theorem dX11_plan_35 : decode cX11_plan 35 = .ok (.iload_n 1, 1) := by decide +kernel
theorem dX11_plan_36 : decode cX11_plan 36 = .ok (.aload_n 0, 1) := by decide +kernel
theorem dX11_plan_37 : decode cX11_plan 37 = .ok (.getfield 20, 3) := by decide +kernel
theorem dX11_plan_40 : decode cX11_plan 40 = .ok (.iload_n 1, 1) := by decide +kernel
theorem dX11_plan_41 : decode cX11_plan 41 = .ok (.iaload, 1) := by decide +kernel
theorem dX11_plan_42 : decode cX11_plan 42 = .ok (.iastore, 1) := by decide +kernel
theorem dX11_plan_43 : decode cX11_plan 43 = .ok (.iinc 1 1, 3) := by decide +kernel
theorem dX11_plan_46 : decode cX11_plan 46 = .ok (.goto (-24), 3) := by decide +kernel
theorem dX11_plan_49 : decode cX11_plan 49 = .ok (.aload_n 0, 1) := by decide +kernel
theorem dX11_plan_50 : decode cX11_plan 50 = .ok (.aload_n 0, 1) := by decide +kernel
theorem dX11_plan_51 : decode cX11_plan 51 = .ok (.getfield 184, 3) := by decide +kernel
theorem dX11_plan_54 : decode cX11_plan 54 = .ok (.putfield 248, 3) := by decide +kernel
theorem dX11_plan_57 : decode cX11_plan 57 = .ok (.aload_n 0, 1) := by decide +kernel
theorem dX11_plan_58 : decode cX11_plan 58 = .ok (.getfield 248, 3) := by decide +kernel
theorem dX11_plan_61 : decode cX11_plan 61 = .ok (.ireturn, 1) := by decide +kernel
theorem dX11_planLine_0 : decode cX11_planLine 0 = .ok (.aload_n 0, 1) := by decide +kernel
theorem dX11_planLine_1 : decode cX11_planLine 1 = .ok (.invokevirtual 105, 3) := by decide +kernel
theorem dX11_planLine_4 : decode cX11_planLine 4 = .ok (.istore_n 1, 1) := by decide +kernel
theorem dX11_planLine_5 : decode cX11_planLine 5 = .ok (.aload_n 0, 1) := by decide +kernel
theorem dX11_planLine_6 : decode cX11_planLine 6 = .ok (.getfield 184, 3) := by decide +kernel
theorem dX11_planLine_9 : decode cX11_planLine 9 = .ok (.bipush 20, 2) := by decide +kernel
theorem dX11_planLine_11 : decode cX11_planLine 11 = .ok (.if_icmp .ne 12, 3) := by decide +kernel
theorem dX11_planLine_14 : decode cX11_planLine 14 = .ok (.aload_n 0, 1) := by decide +kernel
theorem dX11_planLine_15 : decode cX11_planLine 15 = .ok (.aload_n 0, 1) := by decide +kernel
theorem dX11_planLine_16 : decode cX11_planLine 16 = .ok (.getfield 95, 3) := by decide +kernel
theorem dX11_planLine_19 : decode cX11_planLine 19 = .ok (.invokevirtual 136, 3) := by decide +kernel
theorem dX11_planLine_22 : decode cX11_planLine 22 = .ok (.return_, 1) := by decide +kernel
theorem dX11_planLine_23 : decode cX11_planLine 23 = .ok (.iconst 5, 1) := by decide +kernel
theorem dX11_planLine_24 : decode cX11_planLine 24 = .ok (.aload_n 0, 1) := by decide +kernel
theorem dX11_planLine_25 : decode cX11_planLine 25 = .ok (.getfield 184, 3) := by decide +kernel
theorem dX11_planLine_28 : decode cX11_planLine 28 = .ok (.imul, 1) := by decide +kernel
theorem dX11_planLine_29 : decode cX11_planLine 29 = .ok (.istore_n 2, 1) := by decide +kernel
theorem dX11_planLine_30 : decode cX11_planLine 30 = .ok (.aload_n 0, 1) := by decide +kernel
theorem dX11_planLine_31 : decode cX11_planLine 31 = .ok (.getfield 20, 3) := by decide +kernel
theorem dX11_planLine_34 : decode cX11_planLine 34 = .ok (.iload_n 2, 1) := by decide +kernel
theorem dX11_planLine_35 : decode cX11_planLine 35 = .ok (.aload_n 0, 1) := by decide +kernel
theorem dX11_planLine_36 : decode cX11_planLine 36 = .ok (.ldc 187, 2) := by decide +kernel
theorem dX11_planLine_38 : decode cX11_planLine 38 = .ok (.invokevirtual 141, 3) := by decide +kernel
theorem dX11_planLine_41 : decode cX11_planLine 41 = .ok (.ifCond .eq 12, 3) := by decide +kernel
theorem dX11_planLine_44 : decode cX11_planLine 44 = .ok (.aload_n 0, 1) := by decide +kernel
theorem dX11_planLine_45 : decode cX11_planLine 45 = .ok (.iconst 0, 1) := by decide +kernel
theorem dX11_planLine_46 : decode cX11_planLine 46 = .ok (.iconst 5, 1) := by decide +kernel
theorem dX11_planLine_47 : decode cX11_planLine 47 = .ok (.invokevirtual 165, 3) := by decide +kernel
theorem dX11_planLine_50 : decode cX11_planLine 50 = .ok (.goto 4, 3) := by decide +kernel
theorem dX11_planLine_53 : decode cX11_planLine 53 = .ok (.iconst (-1), 1) := by decide +kernel
theorem dX11_planLine_54 : decode cX11_planLine 54 = .ok (.iastore, 1) := by decide +kernel
theorem dX11_planLine_55 : decode cX11_planLine 55 = .ok (.aload_n 0, 1) := by decide +kernel
theorem dX11_planLine_56 : decode cX11_planLine 56 = .ok (.getfield 20, 3) := by decide +kernel
theorem dX11_planLine_59 : decode cX11_planLine 59 = .ok (.iload_n 2, 1) := by decide +kernel
theorem dX11_planLine_60 : decode cX11_planLine 60 = .ok (.iconst 1, 1) := by decide +kernel
theorem dX11_planLine_61 : decode cX11_planLine 61 = .ok (.iadd, 1) := by decide +kernel
theorem dX11_planLine_62 : decode cX11_planLine 62 = .ok (.aload_n 0, 1) := by decide +kernel
theorem dX11_planLine_63 : decode cX11_planLine 63 = .ok (.getfield 102, 3) := by decide +kernel
theorem dX11_planLine_66 : decode cX11_planLine 66 = .ok (.iconst (-1), 1) := by decide +kernel
theorem dX11_planLine_67 : decode cX11_planLine 67 = .ok (.if_icmp .ne 21, 3) := by decide +kernel
theorem dX11_planLine_70 : decode cX11_planLine 70 = .ok (.aload_n 0, 1) := by decide +kernel
theorem dX11_planLine_71 : decode cX11_planLine 71 = .ok (.ldc 189, 2) := by decide +kernel
theorem dX11_planLine_73 : decode cX11_planLine 73 = .ok (.invokevirtual 141, 3) := by decide +kernel
theorem dX11_planLine_76 : decode cX11_planLine 76 = .ok (.ifCond .eq 12, 3) := by decide +kernel
theorem dX11_planLine_79 : decode cX11_planLine 79 = .ok (.aload_n 0, 1) := by decide +kernel
theorem dX11_planLine_80 : decode cX11_planLine 80 = .ok (.iconst 0, 1) := by decide +kernel
theorem dX11_planLine_81 : decode cX11_planLine 81 = .ok (.iconst 2, 1) := by decide +kernel
theorem dX11_planLine_82 : decode cX11_planLine 82 = .ok (.invokevirtual 165, 3) := by decide +kernel
theorem dX11_planLine_85 : decode cX11_planLine 85 = .ok (.goto 4, 3) := by decide +kernel
theorem dX11_planLine_88 : decode cX11_planLine 88 = .ok (.iconst (-1), 1) := by decide +kernel
theorem dX11_planLine_89 : decode cX11_planLine 89 = .ok (.iastore, 1) := by decide +kernel
theorem dX11_planLine_90 : decode cX11_planLine 90 = .ok (.aload_n 0, 1) := by decide +kernel
theorem dX11_planLine_91 : decode cX11_planLine 91 = .ok (.getfield 20, 3) := by decide +kernel
theorem dX11_planLine_94 : decode cX11_planLine 94 = .ok (.iload_n 2, 1) := by decide +kernel
theorem dX11_planLine_95 : decode cX11_planLine 95 = .ok (.iconst 2, 1) := by decide +kernel
theorem dX11_planLine_96 : decode cX11_planLine 96 = .ok (.iadd, 1) := by decide +kernel
theorem dX11_planLine_97 : decode cX11_planLine 97 = .ok (.aload_n 0, 1) := by decide +kernel
theorem dX11_planLine_98 : decode cX11_planLine 98 = .ok (.getfield 102, 3) := by decide +kernel
theorem dX11_planLine_101 : decode cX11_planLine 101 = .ok (.iconst (-1), 1) := by decide +kernel
theorem dX11_planLine_102 : decode cX11_planLine 102 = .ok (.if_icmp .ne 22, 3) := by decide +kernel
theorem dX11_planLine_105 : decode cX11_planLine 105 = .ok (.aload_n 0, 1) := by decide +kernel
theorem dX11_planLine_106 : decode cX11_planLine 106 = .ok (.ldc 191, 2) := by decide +kernel
theorem dX11_planLine_108 : decode cX11_planLine 108 = .ok (.invokevirtual 141, 3) := by decide +kernel
theorem dX11_planLine_111 : decode cX11_planLine 111 = .ok (.ifCond .eq 13, 3) := by decide +kernel
theorem dX11_planLine_114 : decode cX11_planLine 114 = .ok (.aload_n 0, 1) := by decide +kernel
theorem dX11_planLine_115 : decode cX11_planLine 115 = .ok (.iconst 0, 1) := by decide +kernel
theorem dX11_planLine_116 : decode cX11_planLine 116 = .ok (.bipush 8, 2) := by decide +kernel
theorem dX11_planLine_118 : decode cX11_planLine 118 = .ok (.invokevirtual 165, 3) := by decide +kernel
theorem dX11_planLine_121 : decode cX11_planLine 121 = .ok (.goto 4, 3) := by decide +kernel
theorem dX11_planLine_124 : decode cX11_planLine 124 = .ok (.iconst (-1), 1) := by decide +kernel
theorem dX11_planLine_125 : decode cX11_planLine 125 = .ok (.iastore, 1) := by decide +kernel
theorem dX11_planLine_126 : decode cX11_planLine 126 = .ok (.aload_n 0, 1) := by decide +kernel
theorem dX11_planLine_127 : decode cX11_planLine 127 = .ok (.getfield 20, 3) := by decide +kernel
theorem dX11_planLine_130 : decode cX11_planLine 130 = .ok (.iload_n 2, 1) := by decide +kernel
theorem dX11_planLine_131 : decode cX11_planLine 131 = .ok (.iconst 3, 1) := by decide +kernel
theorem dX11_planLine_132 : decode cX11_planLine 132 = .ok (.iadd, 1) := by decide +kernel
theorem dX11_planLine_133 : decode cX11_planLine 133 = .ok (.aload_n 0, 1) := by decide +kernel
theorem dX11_planLine_134 : decode cX11_planLine 134 = .ok (.getfield 102, 3) := by decide +kernel
theorem dX11_planLine_137 : decode cX11_planLine 137 = .ok (.iconst (-1), 1) := by decide +kernel
theorem dX11_planLine_138 : decode cX11_planLine 138 = .ok (.if_icmp .ne 22, 3) := by decide +kernel
theorem dX11_planLine_141 : decode cX11_planLine 141 = .ok (.aload_n 0, 1) := by decide +kernel
theorem dX11_planLine_142 : decode cX11_planLine 142 = .ok (.ldc 193, 2) := by decide +kernel
theorem dX11_planLine_144 : decode cX11_planLine 144 = .ok (.invokevirtual 141, 3) := by decide +kernel
theorem dX11_planLine_147 : decode cX11_planLine 147 = .ok (.ifCond .eq 13, 3) := by decide +kernel
theorem dX11_planLine_150 : decode cX11_planLine 150 = .ok (.aload_n 0, 1) := by decide +kernel
theorem dX11_planLine_151 : decode cX11_planLine 151 = .ok (.iconst 0, 1) := by decide +kernel
theorem dX11_planLine_152 : decode cX11_planLine 152 = .ok (.bipush 8, 2) := by decide +kernel
theorem dX11_planLine_154 : decode cX11_planLine 154 = .ok (.invokevirtual 165, 3) := by decide +kernel
theorem dX11_planLine_157 : decode cX11_planLine 157 = .ok (.goto 4, 3) := by decide +kernel
theorem dX11_planLine_160 : decode cX11_planLine 160 = .ok (.iconst (-1), 1) := by decide +kernel
theorem dX11_planLine_161 : decode cX11_planLine 161 = .ok (.iastore, 1) := by decide +kernel
theorem dX11_planLine_162 : decode cX11_planLine 162 = .ok (.aload_n 0, 1) := by decide +kernel
theorem dX11_planLine_163 : decode cX11_planLine 163 = .ok (.getfield 102, 3) := by decide +kernel
theorem dX11_planLine_166 : decode cX11_planLine 166 = .ok (.iconst (-1), 1) := by decide +kernel
theorem dX11_planLine_167 : decode cX11_planLine 167 = .ok (.if_icmp .eq 4, 3) := by decide +kernel
theorem dX11_planLine_170 : decode cX11_planLine 170 = .ok (.return_, 1) := by decide +kernel
theorem dX11_planLine_171 : decode cX11_planLine 171 = .ok (.aload_n 0, 1) := by decide +kernel
theorem dX11_planLine_172 : decode cX11_planLine 172 = .ok (.invokevirtual 105, 3) := by decide +kernel
theorem dX11_planLine_175 : decode cX11_planLine 175 = .ok (.istore_n 1, 1) := by decide +kernel
theorem dX11_planLine_176 : decode cX11_planLine 176 = .ok (.iload_n 1, 1) := by decide +kernel
theorem dX11_planLine_177 : decode cX11_planLine 177 = .ok (.invokestatic 119, 3) := by decide +kernel
theorem dX11_planLine_180 : decode cX11_planLine 180 = .ok (.ifCond .eq 20, 3) := by decide +kernel
theorem dX11_planLine_183 : decode cX11_planLine 183 = .ok (.aload_n 0, 1) := by decide +kernel
theorem dX11_planLine_184 : decode cX11_planLine 184 = .ok (.getfield 20, 3) := by decide +kernel
theorem dX11_planLine_187 : decode cX11_planLine 187 = .ok (.iload_n 2, 1) := by decide +kernel
theorem dX11_planLine_188 : decode cX11_planLine 188 = .ok (.iconst 4, 1) := by decide +kernel
theorem dX11_planLine_189 : decode cX11_planLine 189 = .ok (.iadd, 1) := by decide +kernel
theorem dX11_planLine_190 : decode cX11_planLine 190 = .ok (.aload_n 0, 1) := by decide +kernel
theorem dX11_planLine_191 : decode cX11_planLine 191 = .ok (.iconst 0, 1) := by decide +kernel
theorem dX11_planLine_192 : decode cX11_planLine 192 = .ok (.iconst 2, 1) := by decide +kernel
theorem dX11_planLine_193 : decode cX11_planLine 193 = .ok (.invokevirtual 165, 3) := by decide +kernel
theorem dX11_planLine_196 : decode cX11_planLine 196 = .ok (.iastore, 1) := by decide +kernel
theorem dX11_planLine_197 : decode cX11_planLine 197 = .ok (.goto 96, 3) := by decide +kernel
theorem dX11_planLine_200 : decode cX11_planLine 200 = .ok (.aload_n 0, 1) := by decide +kernel
theorem dX11_planLine_201 : decode cX11_planLine 201 = .ok (.ldc 195, 2) := by decide +kernel
theorem dX11_planLine_203 : decode cX11_planLine 203 = .ok (.invokevirtual 141, 3) := by decide +kernel
theorem dX11_planLine_206 : decode cX11_planLine 206 = .ok (.ifCond .eq 15, 3) := by decide +kernel
theorem dX11_planLine_209 : decode cX11_planLine 209 = .ok (.aload_n 0, 1) := by decide +kernel
theorem dX11_planLine_210 : decode cX11_planLine 210 = .ok (.getfield 20, 3) := by decide +kernel
theorem dX11_planLine_213 : decode cX11_planLine 213 = .ok (.iload_n 2, 1) := by decide +kernel
theorem dX11_planLine_214 : decode cX11_planLine 214 = .ok (.iconst 4, 1) := by decide +kernel
theorem dX11_planLine_215 : decode cX11_planLine 215 = .ok (.iadd, 1) := by decide +kernel
theorem dX11_planLine_216 : decode cX11_planLine 216 = .ok (.iconst 3, 1) := by decide +kernel
theorem dX11_planLine_217 : decode cX11_planLine 217 = .ok (.iastore, 1) := by decide +kernel
theorem dX11_planLine_218 : decode cX11_planLine 218 = .ok (.goto 75, 3) := by decide +kernel
theorem dX11_planLine_221 : decode cX11_planLine 221 = .ok (.aload_n 0, 1) := by decide +kernel
theorem dX11_planLine_222 : decode cX11_planLine 222 = .ok (.ldc 197, 2) := by decide +kernel
theorem dX11_planLine_224 : decode cX11_planLine 224 = .ok (.invokevirtual 141, 3) := by decide +kernel
theorem dX11_planLine_227 : decode cX11_planLine 227 = .ok (.ifCond .eq 15, 3) := by decide +kernel
theorem dX11_planLine_230 : decode cX11_planLine 230 = .ok (.aload_n 0, 1) := by decide +kernel
theorem dX11_planLine_231 : decode cX11_planLine 231 = .ok (.getfield 20, 3) := by decide +kernel
theorem dX11_planLine_234 : decode cX11_planLine 234 = .ok (.iload_n 2, 1) := by decide +kernel
theorem dX11_planLine_235 : decode cX11_planLine 235 = .ok (.iconst 4, 1) := by decide +kernel
theorem dX11_planLine_236 : decode cX11_planLine 236 = .ok (.iadd, 1) := by decide +kernel
theorem dX11_planLine_237 : decode cX11_planLine 237 = .ok (.iconst 4, 1) := by decide +kernel
theorem dX11_planLine_238 : decode cX11_planLine 238 = .ok (.iastore, 1) := by decide +kernel
theorem dX11_planLine_239 : decode cX11_planLine 239 = .ok (.goto 54, 3) := by decide +kernel
theorem dX11_planLine_242 : decode cX11_planLine 242 = .ok (.aload_n 0, 1) := by decide +kernel
theorem dX11_planLine_243 : decode cX11_planLine 243 = .ok (.ldc 199, 2) := by decide +kernel
theorem dX11_planLine_245 : decode cX11_planLine 245 = .ok (.invokevirtual 141, 3) := by decide +kernel
theorem dX11_planLine_248 : decode cX11_planLine 248 = .ok (.ifCond .eq 15, 3) := by decide +kernel
theorem dX11_planLine_251 : decode cX11_planLine 251 = .ok (.aload_n 0, 1) := by decide +kernel
theorem dX11_planLine_252 : decode cX11_planLine 252 = .ok (.getfield 20, 3) := by decide +kernel
theorem dX11_planLine_255 : decode cX11_planLine 255 = .ok (.iload_n 2, 1) := by decide +kernel
theorem dX11_planLine_256 : decode cX11_planLine 256 = .ok (.iconst 4, 1) := by decide +kernel
theorem dX11_planLine_257 : decode cX11_planLine 257 = .ok (.iadd, 1) := by decide +kernel
theorem dX11_planLine_258 : decode cX11_planLine 258 = .ok (.iconst 5, 1) := by decide +kernel
theorem dX11_planLine_259 : decode cX11_planLine 259 = .ok (.iastore, 1) := by decide +kernel
theorem dX11_planLine_260 : decode cX11_planLine 260 = .ok (.goto 33, 3) := by decide +kernel
theorem dX11_planLine_263 : decode cX11_planLine 263 = .ok (.aload_n 0, 1) := by decide +kernel
theorem dX11_planLine_264 : decode cX11_planLine 264 = .ok (.ldc 201, 2) := by decide +kernel
theorem dX11_planLine_266 : decode cX11_planLine 266 = .ok (.invokevirtual 141, 3) := by decide +kernel
theorem dX11_planLine_269 : decode cX11_planLine 269 = .ok (.ifCond .eq 16, 3) := by decide +kernel
theorem dX11_planLine_272 : decode cX11_planLine 272 = .ok (.aload_n 0, 1) := by decide +kernel
theorem dX11_planLine_273 : decode cX11_planLine 273 = .ok (.getfield 20, 3) := by decide +kernel
theorem dX11_planLine_276 : decode cX11_planLine 276 = .ok (.iload_n 2, 1) := by decide +kernel
theorem dX11_planLine_277 : decode cX11_planLine 277 = .ok (.iconst 4, 1) := by decide +kernel
theorem dX11_planLine_278 : decode cX11_planLine 278 = .ok (.iadd, 1) := by decide +kernel
theorem dX11_planLine_279 : decode cX11_planLine 279 = .ok (.bipush 6, 2) := by decide +kernel
theorem dX11_planLine_281 : decode cX11_planLine 281 = .ok (.iastore, 1) := by decide +kernel
theorem dX11_planLine_282 : decode cX11_planLine 282 = .ok (.goto 11, 3) := by decide +kernel
theorem dX11_planLine_285 : decode cX11_planLine 285 = .ok (.aload_n 0, 1) := by decide +kernel
theorem dX11_planLine_286 : decode cX11_planLine 286 = .ok (.aload_n 0, 1) := by decide +kernel
theorem dX11_planLine_287 : decode cX11_planLine 287 = .ok (.getfield 95, 3) := by decide +kernel
theorem dX11_planLine_290 : decode cX11_planLine 290 = .ok (.invokevirtual 136, 3) := by decide +kernel
theorem dX11_planLine_293 : decode cX11_planLine 293 = .ok (.aload_n 0, 1) := by decide +kernel
theorem dX11_planLine_294 : decode cX11_planLine 294 = .ok (.dup, 1) := by decide +kernel
theorem dX11_planLine_295 : decode cX11_planLine 295 = .ok (.getfield 184, 3) := by decide +kernel
theorem dX11_planLine_298 : decode cX11_planLine 298 = .ok (.iconst 1, 1) := by decide +kernel
theorem dX11_planLine_299 : decode cX11_planLine 299 = .ok (.iadd, 1) := by decide +kernel
theorem dX11_planLine_300 : decode cX11_planLine 300 = .ok (.putfield 184, 3) := by decide +kernel
theorem dX11_planLine_303 : decode cX11_planLine 303 = .ok (.return_, 1) := by decide +kernel
theorem dX11_readsCouncil_0 : decode cX11_readsCouncil 0 = .ok (.aload_n 0, 1) := by decide +kernel
theorem dX11_readsCouncil_1 : decode cX11_readsCouncil 1 = .ok (.iconst 0, 1) := by decide +kernel
theorem dX11_readsCouncil_2 : decode cX11_readsCouncil 2 = .ok (.putfield 95, 3) := by decide +kernel
theorem dX11_readsCouncil_5 : decode cX11_readsCouncil 5 = .ok (.aload_n 0, 1) := by decide +kernel
theorem dX11_readsCouncil_6 : decode cX11_readsCouncil 6 = .ok (.iconst (-1), 1) := by decide +kernel
theorem dX11_readsCouncil_7 : decode cX11_readsCouncil 7 = .ok (.putfield 102, 3) := by decide +kernel
theorem dX11_readsCouncil_10 : decode cX11_readsCouncil 10 = .ok (.aload_n 0, 1) := by decide +kernel
theorem dX11_readsCouncil_11 : decode cX11_readsCouncil 11 = .ok (.iconst 0, 1) := by decide +kernel
theorem dX11_readsCouncil_12 : decode cX11_readsCouncil 12 = .ok (.putfield 158, 3) := by decide +kernel
theorem dX11_readsCouncil_15 : decode cX11_readsCouncil 15 = .ok (.iconst 0, 1) := by decide +kernel
theorem dX11_readsCouncil_16 : decode cX11_readsCouncil 16 = .ok (.istore_n 1, 1) := by decide +kernel
theorem dX11_readsCouncil_17 : decode cX11_readsCouncil 17 = .ok (.iload_n 1, 1) := by decide +kernel
theorem dX11_readsCouncil_18 : decode cX11_readsCouncil 18 = .ok (.bipush 6, 2) := by decide +kernel
theorem dX11_readsCouncil_20 : decode cX11_readsCouncil 20 = .ok (.if_icmp .ge 16, 3) := by decide +kernel
theorem dX11_readsCouncil_23 : decode cX11_readsCouncil 23 = .ok (.aload_n 0, 1) := by decide +kernel
theorem dX11_readsCouncil_24 : decode cX11_readsCouncil 24 = .ok (.getfield 13, 3) := by decide +kernel
theorem dX11_readsCouncil_27 : decode cX11_readsCouncil 27 = .ok (.iload_n 1, 1) := by decide +kernel
theorem dX11_readsCouncil_28 : decode cX11_readsCouncil 28 = .ok (.iconst 0, 1) := by decide +kernel
theorem dX11_readsCouncil_29 : decode cX11_readsCouncil 29 = .ok (.iastore, 1) := by decide +kernel
theorem dX11_readsCouncil_30 : decode cX11_readsCouncil 30 = .ok (.iinc 1 1, 3) := by decide +kernel
theorem dX11_readsCouncil_33 : decode cX11_readsCouncil 33 = .ok (.goto (-16), 3) := by decide +kernel
theorem dX11_readsCouncil_36 : decode cX11_readsCouncil 36 = .ok (.aload_n 0, 1) := by decide +kernel
theorem dX11_readsCouncil_37 : decode cX11_readsCouncil 37 = .ok (.invokevirtual 105, 3) := by decide +kernel
theorem dX11_readsCouncil_40 : decode cX11_readsCouncil 40 = .ok (.istore_n 1, 1) := by decide +kernel
theorem dX11_readsCouncil_41 : decode cX11_readsCouncil 41 = .ok (.aload_n 0, 1) := by decide +kernel
theorem dX11_readsCouncil_42 : decode cX11_readsCouncil 42 = .ok (.aload_n 0, 1) := by decide +kernel
theorem dX11_readsCouncil_43 : decode cX11_readsCouncil 43 = .ok (.ldc 174, 2) := by decide +kernel
theorem dX11_readsCouncil_45 : decode cX11_readsCouncil 45 = .ok (.invokevirtual 141, 3) := by decide +kernel
theorem dX11_readsCouncil_48 : decode cX11_readsCouncil 48 = .ok (.ifCond .eq 7, 3) := by decide +kernel
theorem dX11_readsCouncil_51 : decode cX11_readsCouncil 51 = .ok (.iconst 0, 1) := by decide +kernel
theorem dX11_readsCouncil_52 : decode cX11_readsCouncil 52 = .ok (.goto 17, 3) := by decide +kernel
theorem dX11_readsCouncil_55 : decode cX11_readsCouncil 55 = .ok (.aload_n 0, 1) := by decide +kernel
theorem dX11_readsCouncil_56 : decode cX11_readsCouncil 56 = .ok (.ldc 176, 2) := by decide +kernel
theorem dX11_readsCouncil_58 : decode cX11_readsCouncil 58 = .ok (.invokevirtual 141, 3) := by decide +kernel
theorem dX11_readsCouncil_61 : decode cX11_readsCouncil 61 = .ok (.ifCond .eq 7, 3) := by decide +kernel
theorem dX11_readsCouncil_64 : decode cX11_readsCouncil 64 = .ok (.iconst 1, 1) := by decide +kernel
theorem dX11_readsCouncil_65 : decode cX11_readsCouncil 65 = .ok (.goto 4, 3) := by decide +kernel
theorem dX11_readsCouncil_68 : decode cX11_readsCouncil 68 = .ok (.iconst (-1), 1) := by decide +kernel
theorem dX11_readsCouncil_69 : decode cX11_readsCouncil 69 = .ok (.putfield 178, 3) := by decide +kernel
theorem dX11_readsCouncil_72 : decode cX11_readsCouncil 72 = .ok (.aload_n 0, 1) := by decide +kernel
theorem dX11_readsCouncil_73 : decode cX11_readsCouncil 73 = .ok (.getfield 178, 3) := by decide +kernel
theorem dX11_readsCouncil_76 : decode cX11_readsCouncil 76 = .ok (.iconst (-1), 1) := by decide +kernel
theorem dX11_readsCouncil_77 : decode cX11_readsCouncil 77 = .ok (.if_icmp .ne 11, 3) := by decide +kernel
theorem dX11_readsCouncil_80 : decode cX11_readsCouncil 80 = .ok (.aload_n 0, 1) := by decide +kernel
theorem dX11_readsCouncil_81 : decode cX11_readsCouncil 81 = .ok (.aload_n 0, 1) := by decide +kernel
theorem dX11_readsCouncil_82 : decode cX11_readsCouncil 82 = .ok (.getfield 95, 3) := by decide +kernel
theorem dX11_readsCouncil_85 : decode cX11_readsCouncil 85 = .ok (.invokevirtual 136, 3) := by decide +kernel
theorem dX11_readsCouncil_88 : decode cX11_readsCouncil 88 = .ok (.aload_n 0, 1) := by decide +kernel
theorem dX11_readsCouncil_89 : decode cX11_readsCouncil 89 = .ok (.getfield 102, 3) := by decide +kernel
theorem dX11_readsCouncil_92 : decode cX11_readsCouncil 92 = .ok (.iconst (-1), 1) := by decide +kernel
theorem dX11_readsCouncil_93 : decode cX11_readsCouncil 93 = .ok (.if_icmp .ne 29, 3) := by decide +kernel
theorem dX11_readsCouncil_96 : decode cX11_readsCouncil 96 = .ok (.aload_n 0, 1) := by decide +kernel
theorem dX11_readsCouncil_97 : decode cX11_readsCouncil 97 = .ok (.invokevirtual 105, 3) := by decide +kernel
theorem dX11_readsCouncil_100 : decode cX11_readsCouncil 100 = .ok (.bipush 59, 2) := by decide +kernel
theorem dX11_readsCouncil_102 : decode cX11_readsCouncil 102 = .ok (.if_icmp .ne 20, 3) := by decide +kernel
theorem dX11_readsCouncil_105 : decode cX11_readsCouncil 105 = .ok (.aload_n 0, 1) := by decide +kernel
theorem dX11_readsCouncil_106 : decode cX11_readsCouncil 106 = .ok (.dup, 1) := by decide +kernel
theorem dX11_readsCouncil_107 : decode cX11_readsCouncil 107 = .ok (.getfield 95, 3) := by decide +kernel
theorem dX11_readsCouncil_110 : decode cX11_readsCouncil 110 = .ok (.iconst 1, 1) := by decide +kernel
theorem dX11_readsCouncil_111 : decode cX11_readsCouncil 111 = .ok (.iadd, 1) := by decide +kernel
theorem dX11_readsCouncil_112 : decode cX11_readsCouncil 112 = .ok (.putfield 95, 3) := by decide +kernel
theorem dX11_readsCouncil_115 : decode cX11_readsCouncil 115 = .ok (.aload_n 0, 1) := by decide +kernel
theorem dX11_readsCouncil_116 : decode cX11_readsCouncil 116 = .ok (.invokevirtual 181, 3) := by decide +kernel
theorem dX11_readsCouncil_119 : decode cX11_readsCouncil 119 = .ok (.goto (-31), 3) := by decide +kernel
theorem dX11_readsCouncil_122 : decode cX11_readsCouncil 122 = .ok (.aload_n 0, 1) := by decide +kernel
theorem dX11_readsCouncil_123 : decode cX11_readsCouncil 123 = .ok (.getfield 102, 3) := by decide +kernel
theorem dX11_readsCouncil_126 : decode cX11_readsCouncil 126 = .ok (.iconst (-1), 1) := by decide +kernel
theorem dX11_readsCouncil_127 : decode cX11_readsCouncil 127 = .ok (.if_icmp .ne 30, 3) := by decide +kernel
theorem dX11_readsCouncil_130 : decode cX11_readsCouncil 130 = .ok (.aload_n 0, 1) := by decide +kernel
theorem dX11_readsCouncil_131 : decode cX11_readsCouncil 131 = .ok (.invokevirtual 105, 3) := by decide +kernel
theorem dX11_readsCouncil_134 : decode cX11_readsCouncil 134 = .ok (.iconst (-1), 1) := by decide +kernel
theorem dX11_readsCouncil_135 : decode cX11_readsCouncil 135 = .ok (.if_icmp .ne 14, 3) := by decide +kernel
theorem dX11_readsCouncil_138 : decode cX11_readsCouncil 138 = .ok (.aload_n 0, 1) := by decide +kernel
theorem dX11_readsCouncil_139 : decode cX11_readsCouncil 139 = .ok (.getfield 158, 3) := by decide +kernel
theorem dX11_readsCouncil_142 : decode cX11_readsCouncil 142 = .ok (.iconst 0, 1) := by decide +kernel
theorem dX11_readsCouncil_143 : decode cX11_readsCouncil 143 = .ok (.invokestatic 161, 3) := by decide +kernel
theorem dX11_readsCouncil_146 : decode cX11_readsCouncil 146 = .ok (.ifCond .ne 11, 3) := by decide +kernel
theorem dX11_readsCouncil_149 : decode cX11_readsCouncil 149 = .ok (.aload_n 0, 1) := by decide +kernel
theorem dX11_readsCouncil_150 : decode cX11_readsCouncil 150 = .ok (.aload_n 0, 1) := by decide +kernel
theorem dX11_readsCouncil_151 : decode cX11_readsCouncil 151 = .ok (.getfield 95, 3) := by decide +kernel
theorem dX11_readsCouncil_154 : decode cX11_readsCouncil 154 = .ok (.invokevirtual 136, 3) := by decide +kernel
theorem dX11_readsCouncil_157 : decode cX11_readsCouncil 157 = .ok (.aload_n 0, 1) := by decide +kernel
theorem dX11_readsCouncil_158 : decode cX11_readsCouncil 158 = .ok (.getfield 158, 3) := by decide +kernel
theorem dX11_readsCouncil_161 : decode cX11_readsCouncil 161 = .ok (.iconst 1, 1) := by decide +kernel
theorem dX11_readsCouncil_162 : decode cX11_readsCouncil 162 = .ok (.invokestatic 161, 3) := by decide +kernel
theorem dX11_readsCouncil_165 : decode cX11_readsCouncil 165 = .ok (.ifCond .ne 30, 3) := by decide +kernel
theorem dX11_readsCouncil_168 : decode cX11_readsCouncil 168 = .ok (.aload_n 0, 1) := by decide +kernel
theorem dX11_readsCouncil_169 : decode cX11_readsCouncil 169 = .ok (.getfield 13, 3) := by decide +kernel
theorem dX11_readsCouncil_172 : decode cX11_readsCouncil 172 = .ok (.iconst 1, 1) := by decide +kernel
theorem dX11_readsCouncil_173 : decode cX11_readsCouncil 173 = .ok (.aload_n 0, 1) := by decide +kernel
theorem dX11_readsCouncil_174 : decode cX11_readsCouncil 174 = .ok (.getfield 13, 3) := by decide +kernel
theorem dX11_readsCouncil_177 : decode cX11_readsCouncil 177 = .ok (.iconst 0, 1) := by decide +kernel
theorem dX11_readsCouncil_178 : decode cX11_readsCouncil 178 = .ok (.iaload, 1) := by decide +kernel
theorem dX11_readsCouncil_179 : decode cX11_readsCouncil 179 = .ok (.iconst 1, 1) := by decide +kernel
theorem dX11_readsCouncil_180 : decode cX11_readsCouncil 180 = .ok (.isub, 1) := by decide +kernel
theorem dX11_readsCouncil_181 : decode cX11_readsCouncil 181 = .ok (.aload_n 0, 1) := by decide +kernel
theorem dX11_readsCouncil_182 : decode cX11_readsCouncil 182 = .ok (.getfield 178, 3) := by decide +kernel
theorem dX11_readsCouncil_185 : decode cX11_readsCouncil 185 = .ok (.ifCond .ne 7, 3) := by decide +kernel
theorem dX11_readsCouncil_188 : decode cX11_readsCouncil 188 = .ok (.iconst 3, 1) := by decide +kernel
theorem dX11_readsCouncil_189 : decode cX11_readsCouncil 189 = .ok (.goto 4, 3) := by decide +kernel
theorem dX11_readsCouncil_192 : decode cX11_readsCouncil 192 = .ok (.iconst 4, 1) := by decide +kernel
theorem dX11_readsCouncil_193 : decode cX11_readsCouncil 193 = .ok (.idiv, 1) := by decide +kernel
theorem dX11_readsCouncil_194 : decode cX11_readsCouncil 194 = .ok (.iastore, 1) := by decide +kernel
theorem dX11_readsCouncil_195 : decode cX11_readsCouncil 195 = .ok (.aload_n 0, 1) := by decide +kernel
theorem dX11_readsCouncil_196 : decode cX11_readsCouncil 196 = .ok (.getfield 158, 3) := by decide +kernel
theorem dX11_readsCouncil_199 : decode cX11_readsCouncil 199 = .ok (.iconst 2, 1) := by decide +kernel
theorem dX11_readsCouncil_200 : decode cX11_readsCouncil 200 = .ok (.invokestatic 161, 3) := by decide +kernel
theorem dX11_readsCouncil_203 : decode cX11_readsCouncil 203 = .ok (.ifCond .ne 17, 3) := by decide +kernel
theorem dX11_readsCouncil_206 : decode cX11_readsCouncil 206 = .ok (.aload_n 0, 1) := by decide +kernel
theorem dX11_readsCouncil_207 : decode cX11_readsCouncil 207 = .ok (.getfield 13, 3) := by decide +kernel
theorem dX11_readsCouncil_210 : decode cX11_readsCouncil 210 = .ok (.iconst 2, 1) := by decide +kernel
theorem dX11_readsCouncil_211 : decode cX11_readsCouncil 211 = .ok (.aload_n 0, 1) := by decide +kernel
theorem dX11_readsCouncil_212 : decode cX11_readsCouncil 212 = .ok (.getfield 13, 3) := by decide +kernel
theorem dX11_readsCouncil_215 : decode cX11_readsCouncil 215 = .ok (.iconst 1, 1) := by decide +kernel
theorem dX11_readsCouncil_216 : decode cX11_readsCouncil 216 = .ok (.iaload, 1) := by decide +kernel
theorem dX11_readsCouncil_217 : decode cX11_readsCouncil 217 = .ok (.iconst 1, 1) := by decide +kernel
theorem dX11_readsCouncil_218 : decode cX11_readsCouncil 218 = .ok (.iadd, 1) := by decide +kernel
theorem dX11_readsCouncil_219 : decode cX11_readsCouncil 219 = .ok (.iastore, 1) := by decide +kernel
theorem dX11_readsCouncil_220 : decode cX11_readsCouncil 220 = .ok (.aload_n 0, 1) := by decide +kernel
theorem dX11_readsCouncil_221 : decode cX11_readsCouncil 221 = .ok (.getfield 102, 3) := by decide +kernel
theorem dX11_readsCouncil_224 : decode cX11_readsCouncil 224 = .ok (.ireturn, 1) := by decide +kernel
theorem dX11_readsPlan_0 : decode cX11_readsPlan 0 = .ok (.aload_n 0, 1) := by decide +kernel
theorem dX11_readsPlan_1 : decode cX11_readsPlan 1 = .ok (.iconst 0, 1) := by decide +kernel
theorem dX11_readsPlan_2 : decode cX11_readsPlan 2 = .ok (.putfield 95, 3) := by decide +kernel
theorem dX11_readsPlan_5 : decode cX11_readsPlan 5 = .ok (.aload_n 0, 1) := by decide +kernel
theorem dX11_readsPlan_6 : decode cX11_readsPlan 6 = .ok (.iconst (-1), 1) := by decide +kernel
theorem dX11_readsPlan_7 : decode cX11_readsPlan 7 = .ok (.putfield 102, 3) := by decide +kernel
theorem dX11_readsPlan_10 : decode cX11_readsPlan 10 = .ok (.aload_n 0, 1) := by decide +kernel
theorem dX11_readsPlan_11 : decode cX11_readsPlan 11 = .ok (.iconst 0, 1) := by decide +kernel
theorem dX11_readsPlan_12 : decode cX11_readsPlan 12 = .ok (.putfield 184, 3) := by decide +kernel
theorem dX11_readsPlan_15 : decode cX11_readsPlan 15 = .ok (.aload_n 0, 1) := by decide +kernel
theorem dX11_readsPlan_16 : decode cX11_readsPlan 16 = .ok (.invokevirtual 203, 3) := by decide +kernel
theorem dX11_readsPlan_19 : decode cX11_readsPlan 19 = .ok (.aload_n 0, 1) := by decide +kernel
theorem dX11_readsPlan_20 : decode cX11_readsPlan 20 = .ok (.getfield 102, 3) := by decide +kernel
theorem dX11_readsPlan_23 : decode cX11_readsPlan 23 = .ok (.iconst (-1), 1) := by decide +kernel
theorem dX11_readsPlan_24 : decode cX11_readsPlan 24 = .ok (.if_icmp .ne 29, 3) := by decide +kernel
theorem dX11_readsPlan_27 : decode cX11_readsPlan 27 = .ok (.aload_n 0, 1) := by decide +kernel
theorem dX11_readsPlan_28 : decode cX11_readsPlan 28 = .ok (.invokevirtual 105, 3) := by decide +kernel
theorem dX11_readsPlan_31 : decode cX11_readsPlan 31 = .ok (.bipush 59, 2) := by decide +kernel
theorem dX11_readsPlan_33 : decode cX11_readsPlan 33 = .ok (.if_icmp .ne 20, 3) := by decide +kernel
theorem dX11_readsPlan_36 : decode cX11_readsPlan 36 = .ok (.aload_n 0, 1) := by decide +kernel
theorem dX11_readsPlan_37 : decode cX11_readsPlan 37 = .ok (.dup, 1) := by decide +kernel
theorem dX11_readsPlan_38 : decode cX11_readsPlan 38 = .ok (.getfield 95, 3) := by decide +kernel
theorem dX11_readsPlan_41 : decode cX11_readsPlan 41 = .ok (.iconst 1, 1) := by decide +kernel
theorem dX11_readsPlan_42 : decode cX11_readsPlan 42 = .ok (.iadd, 1) := by decide +kernel
theorem dX11_readsPlan_43 : decode cX11_readsPlan 43 = .ok (.putfield 95, 3) := by decide +kernel
theorem dX11_readsPlan_46 : decode cX11_readsPlan 46 = .ok (.aload_n 0, 1) := by decide +kernel
theorem dX11_readsPlan_47 : decode cX11_readsPlan 47 = .ok (.invokevirtual 203, 3) := by decide +kernel
theorem dX11_readsPlan_50 : decode cX11_readsPlan 50 = .ok (.goto (-31), 3) := by decide +kernel
theorem dX11_readsPlan_53 : decode cX11_readsPlan 53 = .ok (.aload_n 0, 1) := by decide +kernel
theorem dX11_readsPlan_54 : decode cX11_readsPlan 54 = .ok (.getfield 102, 3) := by decide +kernel
theorem dX11_readsPlan_57 : decode cX11_readsPlan 57 = .ok (.iconst (-1), 1) := by decide +kernel
theorem dX11_readsPlan_58 : decode cX11_readsPlan 58 = .ok (.if_icmp .ne 19, 3) := by decide +kernel
theorem dX11_readsPlan_61 : decode cX11_readsPlan 61 = .ok (.aload_n 0, 1) := by decide +kernel
theorem dX11_readsPlan_62 : decode cX11_readsPlan 62 = .ok (.invokevirtual 105, 3) := by decide +kernel
theorem dX11_readsPlan_65 : decode cX11_readsPlan 65 = .ok (.iconst (-1), 1) := by decide +kernel
theorem dX11_readsPlan_66 : decode cX11_readsPlan 66 = .ok (.if_icmp .eq 11, 3) := by decide +kernel
theorem dX11_readsPlan_69 : decode cX11_readsPlan 69 = .ok (.aload_n 0, 1) := by decide +kernel
theorem dX11_readsPlan_70 : decode cX11_readsPlan 70 = .ok (.aload_n 0, 1) := by decide +kernel
theorem dX11_readsPlan_71 : decode cX11_readsPlan 71 = .ok (.getfield 95, 3) := by decide +kernel
theorem dX11_readsPlan_74 : decode cX11_readsPlan 74 = .ok (.invokevirtual 136, 3) := by decide +kernel
theorem dX11_readsPlan_77 : decode cX11_readsPlan 77 = .ok (.aload_n 0, 1) := by decide +kernel
theorem dX11_readsPlan_78 : decode cX11_readsPlan 78 = .ok (.getfield 102, 3) := by decide +kernel
theorem dX11_readsPlan_81 : decode cX11_readsPlan 81 = .ok (.ireturn, 1) := by decide +kernel
theorem dX11_refuse_0 : decode cX11_refuse 0 = .ok (.aload_n 0, 1) := by decide +kernel
theorem dX11_refuse_1 : decode cX11_refuse 1 = .ok (.getfield 71, 3) := by decide +kernel
theorem dX11_refuse_4 : decode cX11_refuse 4 = .ok (.iload_n 1, 1) := by decide +kernel
theorem dX11_refuse_5 : decode cX11_refuse 5 = .ok (.dup2, 1) := by decide +kernel
theorem dX11_refuse_6 : decode cX11_refuse 6 = .ok (.iaload, 1) := by decide +kernel
theorem dX11_refuse_7 : decode cX11_refuse 7 = .ok (.iconst 1, 1) := by decide +kernel
theorem dX11_refuse_8 : decode cX11_refuse 8 = .ok (.iadd, 1) := by decide +kernel
theorem dX11_refuse_9 : decode cX11_refuse 9 = .ok (.iastore, 1) := by decide +kernel
theorem dX11_refuse_10 : decode cX11_refuse 10 = .ok (.iconst (-1), 1) := by decide +kernel
theorem dX11_refuse_11 : decode cX11_refuse 11 = .ok (.ireturn, 1) := by decide +kernel
theorem dX11_round_0 : decode cX11_round 0 = .ok (.aload_n 0, 1) := by decide +kernel
theorem dX11_round_1 : decode cX11_round 1 = .ok (.iconst 0, 1) := by decide +kernel
theorem dX11_round_2 : decode cX11_round 2 = .ok (.putfield 80, 3) := by decide +kernel
theorem dX11_round_5 : decode cX11_round 5 = .ok (.aload_n 0, 1) := by decide +kernel
theorem dX11_round_6 : decode cX11_round 6 = .ok (.getfield 232, 3) := by decide +kernel
theorem dX11_round_9 : decode cX11_round 9 = .ok (.ifCond .eq 17, 3) := by decide +kernel
theorem dX11_round_12 : decode cX11_round 12 = .ok (.aload_n 0, 1) := by decide +kernel
theorem dX11_round_13 : decode cX11_round 13 = .ok (.getfield 57, 3) := by decide +kernel
theorem dX11_round_16 : decode cX11_round 16 = .ok (.bipush 72, 2) := by decide +kernel
theorem dX11_round_18 : decode cX11_round 18 = .ok (.iaload, 1) := by decide +kernel
theorem dX11_round_19 : decode cX11_round 19 = .ok (.aload_n 0, 1) := by decide +kernel
theorem dX11_round_20 : decode cX11_round 20 = .ok (.invokevirtual 335, 3) := by decide +kernel
theorem dX11_round_23 : decode cX11_round 23 = .ok (.if_icmp .ne 5, 3) := by decide +kernel
theorem dX11_round_26 : decode cX11_round 26 = .ok (.iconst (-1), 1) := by decide +kernel
theorem dX11_round_27 : decode cX11_round 27 = .ok (.ireturn, 1) := by decide +kernel
theorem dX11_round_28 : decode cX11_round 28 = .ok (.aload_n 0, 1) := by decide +kernel
theorem dX11_round_29 : decode cX11_round 29 = .ok (.invokevirtual 338, 3) := by decide +kernel
theorem dX11_round_32 : decode cX11_round 32 = .ok (.aload_n 0, 1) := by decide +kernel
theorem dX11_round_33 : decode cX11_round 33 = .ok (.getfield 57, 3) := by decide +kernel
theorem dX11_round_36 : decode cX11_round 36 = .ok (.bipush 72, 2) := by decide +kernel
theorem dX11_round_38 : decode cX11_round 38 = .ok (.iaload, 1) := by decide +kernel
theorem dX11_round_39 : decode cX11_round 39 = .ok (.ireturn, 1) := by decide +kernel
theorem dX11_rule_0 : decode cX11_rule 0 = .ok (.aload_n 0, 1) := by decide +kernel
theorem dX11_rule_1 : decode cX11_rule 1 = .ok (.iconst 0, 1) := by decide +kernel
theorem dX11_rule_2 : decode cX11_rule 2 = .ok (.putfield 80, 3) := by decide +kernel
theorem dX11_rule_5 : decode cX11_rule 5 = .ok (.iload_n 1, 1) := by decide +kernel
theorem dX11_rule_6 : decode cX11_rule 6 = .ok (.bipush 10, 2) := by decide +kernel
theorem dX11_rule_8 : decode cX11_rule 8 = .ok (.if_icmp .ne 8, 3) := by decide +kernel
theorem dX11_rule_11 : decode cX11_rule 11 = .ok (.aload_n 0, 1) := by decide +kernel
theorem dX11_rule_12 : decode cX11_rule 12 = .ok (.getfield 248, 3) := by decide +kernel
theorem dX11_rule_15 : decode cX11_rule 15 = .ok (.ireturn, 1) := by decide +kernel
theorem dX11_rule_16 : decode cX11_rule 16 = .ok (.aload_n 0, 1) := by decide +kernel
theorem dX11_rule_17 : decode cX11_rule 17 = .ok (.getfield 232, 3) := by decide +kernel
theorem dX11_rule_20 : decode cX11_rule 20 = .ok (.ifCond .ne 7, 3) := by decide +kernel
theorem dX11_rule_23 : decode cX11_rule 23 = .ok (.ldc_w 357, 3) := by decide +kernel
theorem dX11_rule_26 : decode cX11_rule 26 = .ok (.ireturn, 1) := by decide +kernel
theorem dX11_rule_27 : decode cX11_rule 27 = .ok (.aload_n 0, 1) := by decide +kernel
theorem dX11_rule_28 : decode cX11_rule 28 = .ok (.invokevirtual 329, 3) := by decide +kernel
theorem dX11_rule_31 : decode cX11_rule 31 = .ok (.iload_n 1, 1) := by decide +kernel
theorem dX11_rule_32 : decode cX11_rule 32 = .ok (.tableswitch 129 0 11 #[64, 69, 74, 79, 84, 89, 94, 99, 109, 119, 129, 124], 64) := by decide +kernel
theorem dX11_rule_96 : decode cX11_rule 96 = .ok (.aload_n 0, 1) := by decide +kernel
theorem dX11_rule_97 : decode cX11_rule 97 = .ok (.getfield 212, 3) := by decide +kernel
theorem dX11_rule_100 : decode cX11_rule 100 = .ok (.ireturn, 1) := by decide +kernel
theorem dX11_rule_101 : decode cX11_rule 101 = .ok (.aload_n 0, 1) := by decide +kernel
theorem dX11_rule_102 : decode cX11_rule 102 = .ok (.getfield 215, 3) := by decide +kernel
theorem dX11_rule_105 : decode cX11_rule 105 = .ok (.ireturn, 1) := by decide +kernel
theorem dX11_rule_106 : decode cX11_rule 106 = .ok (.aload_n 0, 1) := by decide +kernel
theorem dX11_rule_107 : decode cX11_rule 107 = .ok (.getfield 218, 3) := by decide +kernel
theorem dX11_rule_110 : decode cX11_rule 110 = .ok (.ireturn, 1) := by decide +kernel
theorem dX11_rule_111 : decode cX11_rule 111 = .ok (.aload_n 0, 1) := by decide +kernel
theorem dX11_rule_112 : decode cX11_rule 112 = .ok (.getfield 220, 3) := by decide +kernel
theorem dX11_rule_115 : decode cX11_rule 115 = .ok (.ireturn, 1) := by decide +kernel
theorem dX11_rule_116 : decode cX11_rule 116 = .ok (.aload_n 0, 1) := by decide +kernel
theorem dX11_rule_117 : decode cX11_rule 117 = .ok (.getfield 224, 3) := by decide +kernel
theorem dX11_rule_120 : decode cX11_rule 120 = .ok (.ireturn, 1) := by decide +kernel
theorem dX11_rule_121 : decode cX11_rule 121 = .ok (.aload_n 0, 1) := by decide +kernel
theorem dX11_rule_122 : decode cX11_rule 122 = .ok (.getfield 226, 3) := by decide +kernel
theorem dX11_rule_125 : decode cX11_rule 125 = .ok (.ireturn, 1) := by decide +kernel
theorem dX11_rule_126 : decode cX11_rule 126 = .ok (.aload_n 0, 1) := by decide +kernel
theorem dX11_rule_127 : decode cX11_rule 127 = .ok (.getfield 222, 3) := by decide +kernel
theorem dX11_rule_130 : decode cX11_rule 130 = .ok (.ireturn, 1) := by decide +kernel
theorem dX11_rule_131 : decode cX11_rule 131 = .ok (.aload_n 0, 1) := by decide +kernel
theorem dX11_rule_132 : decode cX11_rule 132 = .ok (.getfield 251, 3) := by decide +kernel
theorem dX11_rule_135 : decode cX11_rule 135 = .ok (.aload_n 0, 1) := by decide +kernel
theorem dX11_rule_136 : decode cX11_rule 136 = .ok (.invokevirtual 287, 3) := by decide +kernel
theorem dX11_rule_139 : decode cX11_rule 139 = .ok (.idiv, 1) := by decide +kernel
theorem dX11_rule_140 : decode cX11_rule 140 = .ok (.ireturn, 1) := by decide +kernel
theorem dX11_rule_141 : decode cX11_rule 141 = .ok (.aload_n 0, 1) := by decide +kernel
theorem dX11_rule_142 : decode cX11_rule 142 = .ok (.getfield 251, 3) := by decide +kernel
theorem dX11_rule_145 : decode cX11_rule 145 = .ok (.aload_n 0, 1) := by decide +kernel
theorem dX11_rule_146 : decode cX11_rule 146 = .ok (.invokevirtual 287, 3) := by decide +kernel
theorem dX11_rule_149 : decode cX11_rule 149 = .ok (.irem, 1) := by decide +kernel
theorem dX11_rule_150 : decode cX11_rule 150 = .ok (.ireturn, 1) := by decide +kernel
theorem dX11_rule_151 : decode cX11_rule 151 = .ok (.aload_n 0, 1) := by decide +kernel
theorem dX11_rule_152 : decode cX11_rule 152 = .ok (.invokevirtual 287, 3) := by decide +kernel
theorem dX11_rule_155 : decode cX11_rule 155 = .ok (.ireturn, 1) := by decide +kernel
theorem dX11_rule_156 : decode cX11_rule 156 = .ok (.aload_n 0, 1) := by decide +kernel
theorem dX11_rule_157 : decode cX11_rule 157 = .ok (.getfield 236, 3) := by decide +kernel
theorem dX11_rule_160 : decode cX11_rule 160 = .ok (.ireturn, 1) := by decide +kernel
theorem dX11_rule_161 : decode cX11_rule 161 = .ok (.ldc_w 357, 3) := by decide +kernel
theorem dX11_rule_164 : decode cX11_rule 164 = .ok (.ireturn, 1) := by decide +kernel
theorem dX11_ruled_0 : decode cX11_ruled 0 = .ok (.aload_n 0, 1) := by decide +kernel
theorem dX11_ruled_1 : decode cX11_ruled 1 = .ok (.iconst 0, 1) := by decide +kernel
theorem dX11_ruled_2 : decode cX11_ruled 2 = .ok (.putfield 80, 3) := by decide +kernel
theorem dX11_ruled_5 : decode cX11_ruled 5 = .ok (.aload_n 0, 1) := by decide +kernel
theorem dX11_ruled_6 : decode cX11_ruled 6 = .ok (.iload_n 1, 1) := by decide +kernel
theorem dX11_ruled_7 : decode cX11_ruled 7 = .ok (.invokevirtual 347, 3) := by decide +kernel
theorem dX11_ruled_10 : decode cX11_ruled 10 = .ok (.ifCond .eq 15, 3) := by decide +kernel
theorem dX11_ruled_13 : decode cX11_ruled 13 = .ok (.iload_n 2, 1) := by decide +kernel
theorem dX11_ruled_14 : decode cX11_ruled 14 = .ok (.i2l, 1) := by decide +kernel
theorem dX11_ruled_15 : decode cX11_ruled 15 = .ok (.lconst 0, 1) := by decide +kernel
theorem dX11_ruled_16 : decode cX11_ruled 16 = .ok (.ldc2_w 267, 3) := by decide +kernel
theorem dX11_ruled_19 : decode cX11_ruled 19 = .ok (.invokestatic 132, 3) := by decide +kernel
theorem dX11_ruled_22 : decode cX11_ruled 22 = .ok (.ifCond .ne 5, 3) := by decide +kernel
theorem dX11_ruled_25 : decode cX11_ruled 25 = .ok (.iconst (-1), 1) := by decide +kernel
theorem dX11_ruled_26 : decode cX11_ruled 26 = .ok (.ireturn, 1) := by decide +kernel
theorem dX11_ruled_27 : decode cX11_ruled 27 = .ok (.iconst 0, 1) := by decide +kernel
theorem dX11_ruled_28 : decode cX11_ruled 28 = .ok (.istore_n 3, 1) := by decide +kernel
theorem dX11_ruled_29 : decode cX11_ruled 29 = .ok (.iconst 0, 1) := by decide +kernel
theorem dX11_ruled_30 : decode cX11_ruled 30 = .ok (.istore 4, 2) := by decide +kernel
theorem dX11_ruled_32 : decode cX11_ruled 32 = .ok (.iload 4, 2) := by decide +kernel
theorem dX11_ruled_34 : decode cX11_ruled 34 = .ok (.aload_n 0, 1) := by decide +kernel
theorem dX11_ruled_35 : decode cX11_ruled 35 = .ok (.invokevirtual 358, 3) := by decide +kernel
theorem dX11_ruled_38 : decode cX11_ruled 38 = .ok (.if_icmp .ge 185, 3) := by decide +kernel
theorem dX11_ruled_41 : decode cX11_ruled 41 = .ok (.iload 4, 2) := by decide +kernel
theorem dX11_ruled_43 : decode cX11_ruled 43 = .ok (.aload_n 0, 1) := by decide +kernel
theorem dX11_ruled_44 : decode cX11_ruled 44 = .ok (.getfield 215, 3) := by decide +kernel
theorem dX11_ruled_47 : decode cX11_ruled 47 = .ok (.irem, 1) := by decide +kernel
theorem dX11_ruled_48 : decode cX11_ruled 48 = .ok (.iload_n 1, 1) := by decide +kernel
theorem dX11_ruled_49 : decode cX11_ruled 49 = .ok (.if_icmp .eq 6, 3) := by decide +kernel
theorem dX11_ruled_52 : decode cX11_ruled 52 = .ok (.goto 165, 3) := by decide +kernel
theorem dX11_ruled_55 : decode cX11_ruled 55 = .ok (.iload_n 2, 1) := by decide +kernel
theorem dX11_ruled_56 : decode cX11_ruled 56 = .ok (.ifCond .ne 6, 3) := by decide +kernel
theorem dX11_ruled_59 : decode cX11_ruled 59 = .ok (.iinc 3 1, 3) := by decide +kernel
theorem dX11_ruled_62 : decode cX11_ruled 62 = .ok (.iload_n 2, 1) := by decide +kernel
theorem dX11_ruled_63 : decode cX11_ruled 63 = .ok (.iconst 1, 1) := by decide +kernel
theorem dX11_ruled_64 : decode cX11_ruled 64 = .ok (.if_icmp .ne 15, 3) := by decide +kernel
theorem dX11_ruled_67 : decode cX11_ruled 67 = .ok (.iload_n 3, 1) := by decide +kernel
theorem dX11_ruled_68 : decode cX11_ruled 68 = .ok (.aload_n 0, 1) := by decide +kernel
theorem dX11_ruled_69 : decode cX11_ruled 69 = .ok (.iload 4, 2) := by decide +kernel
theorem dX11_ruled_71 : decode cX11_ruled 71 = .ok (.bipush 7, 2) := by decide +kernel
theorem dX11_ruled_73 : decode cX11_ruled 73 = .ok (.iconst 1, 1) := by decide +kernel
theorem dX11_ruled_74 : decode cX11_ruled 74 = .ok (.invokevirtual 439, 3) := by decide +kernel
theorem dX11_ruled_77 : decode cX11_ruled 77 = .ok (.iadd, 1) := by decide +kernel
theorem dX11_ruled_78 : decode cX11_ruled 78 = .ok (.istore_n 3, 1) := by decide +kernel
theorem dX11_ruled_79 : decode cX11_ruled 79 = .ok (.iconst 0, 1) := by decide +kernel
theorem dX11_ruled_80 : decode cX11_ruled 80 = .ok (.istore 5, 2) := by decide +kernel
theorem dX11_ruled_82 : decode cX11_ruled 82 = .ok (.iload 5, 2) := by decide +kernel
theorem dX11_ruled_84 : decode cX11_ruled 84 = .ok (.aload_n 0, 1) := by decide +kernel
theorem dX11_ruled_85 : decode cX11_ruled 85 = .ok (.getfield 215, 3) := by decide +kernel
theorem dX11_ruled_88 : decode cX11_ruled 88 = .ok (.if_icmp .ge 129, 3) := by decide +kernel
theorem dX11_ruled_91 : decode cX11_ruled 91 = .ok (.iload_n 2, 1) := by decide +kernel
theorem dX11_ruled_92 : decode cX11_ruled 92 = .ok (.iconst 1, 1) := by decide +kernel
theorem dX11_ruled_93 : decode cX11_ruled 93 = .ok (.if_icmp .le 124, 3) := by decide +kernel
theorem dX11_ruled_96 : decode cX11_ruled 96 = .ok (.aload_n 0, 1) := by decide +kernel
theorem dX11_ruled_97 : decode cX11_ruled 97 = .ok (.getfield 57, 3) := by decide +kernel
theorem dX11_ruled_100 : decode cX11_ruled 100 = .ok (.bipush 80, 2) := by decide +kernel
theorem dX11_ruled_102 : decode cX11_ruled 102 = .ok (.bipush 81, 2) := by decide +kernel
theorem dX11_ruled_104 : decode cX11_ruled 104 = .ok (.iconst 3, 1) := by decide +kernel
theorem dX11_ruled_105 : decode cX11_ruled 105 = .ok (.iload 4, 2) := by decide +kernel
theorem dX11_ruled_107 : decode cX11_ruled 107 = .ok (.imul, 1) := by decide +kernel
theorem dX11_ruled_108 : decode cX11_ruled 108 = .ok (.aload_n 0, 1) := by decide +kernel
theorem dX11_ruled_109 : decode cX11_ruled 109 = .ok (.invokevirtual 287, 3) := by decide +kernel
theorem dX11_ruled_112 : decode cX11_ruled 112 = .ok (.iadd, 1) := by decide +kernel
theorem dX11_ruled_113 : decode cX11_ruled 113 = .ok (.iconst 1, 1) := by decide +kernel
theorem dX11_ruled_114 : decode cX11_ruled 114 = .ok (.isub, 1) := by decide +kernel
theorem dX11_ruled_115 : decode cX11_ruled 115 = .ok (.imul, 1) := by decide +kernel
theorem dX11_ruled_116 : decode cX11_ruled 116 = .ok (.iadd, 1) := by decide +kernel
theorem dX11_ruled_117 : decode cX11_ruled 117 = .ok (.bipush 9, 2) := by decide +kernel
theorem dX11_ruled_119 : decode cX11_ruled 119 = .ok (.iload_n 1, 1) := by decide +kernel
theorem dX11_ruled_120 : decode cX11_ruled 120 = .ok (.imul, 1) := by decide +kernel
theorem dX11_ruled_121 : decode cX11_ruled 121 = .ok (.iadd, 1) := by decide +kernel
theorem dX11_ruled_122 : decode cX11_ruled 122 = .ok (.iload 5, 2) := by decide +kernel
theorem dX11_ruled_124 : decode cX11_ruled 124 = .ok (.iadd, 1) := by decide +kernel
theorem dX11_ruled_125 : decode cX11_ruled 125 = .ok (.iaload, 1) := by decide +kernel
theorem dX11_ruled_126 : decode cX11_ruled 126 = .ok (.istore 6, 2) := by decide +kernel
theorem dX11_ruled_128 : decode cX11_ruled 128 = .ok (.iload 5, 2) := by decide +kernel
theorem dX11_ruled_130 : decode cX11_ruled 130 = .ok (.iload_n 1, 1) := by decide +kernel
theorem dX11_ruled_131 : decode cX11_ruled 131 = .ok (.if_icmp .ne 6, 3) := by decide +kernel
theorem dX11_ruled_134 : decode cX11_ruled 134 = .ok (.goto 77, 3) := by decide +kernel
theorem dX11_ruled_137 : decode cX11_ruled 137 = .ok (.iload_n 2, 1) := by decide +kernel
theorem dX11_ruled_138 : decode cX11_ruled 138 = .ok (.iconst 3, 1) := by decide +kernel
theorem dX11_ruled_139 : decode cX11_ruled 139 = .ok (.if_icmp .ne 17, 3) := by decide +kernel
theorem dX11_ruled_142 : decode cX11_ruled 142 = .ok (.iload 6, 2) := by decide +kernel
theorem dX11_ruled_144 : decode cX11_ruled 144 = .ok (.iconst 2, 1) := by decide +kernel
theorem dX11_ruled_145 : decode cX11_ruled 145 = .ok (.if_icmp .eq 7, 3) := by decide +kernel
theorem dX11_ruled_148 : decode cX11_ruled 148 = .ok (.iconst 1, 1) := by decide +kernel
theorem dX11_ruled_149 : decode cX11_ruled 149 = .ok (.goto 47, 3) := by decide +kernel
theorem dX11_ruled_152 : decode cX11_ruled 152 = .ok (.iconst 0, 1) := by decide +kernel
theorem dX11_ruled_153 : decode cX11_ruled 153 = .ok (.goto 43, 3) := by decide +kernel
theorem dX11_ruled_156 : decode cX11_ruled 156 = .ok (.aload_n 0, 1) := by decide +kernel
theorem dX11_ruled_157 : decode cX11_ruled 157 = .ok (.getfield 57, 3) := by decide +kernel
theorem dX11_ruled_160 : decode cX11_ruled 160 = .ok (.iload 4, 2) := by decide +kernel
theorem dX11_ruled_162 : decode cX11_ruled 162 = .ok (.iload 5, 2) := by decide +kernel
theorem dX11_ruled_164 : decode cX11_ruled 164 = .ok (.invokestatic 332, 3) := by decide +kernel
theorem dX11_ruled_167 : decode cX11_ruled 167 = .ok (.iconst 1, 1) := by decide +kernel
theorem dX11_ruled_168 : decode cX11_ruled 168 = .ok (.iadd, 1) := by decide +kernel
theorem dX11_ruled_169 : decode cX11_ruled 169 = .ok (.iaload, 1) := by decide +kernel
theorem dX11_ruled_170 : decode cX11_ruled 170 = .ok (.iconst 1, 1) := by decide +kernel
theorem dX11_ruled_171 : decode cX11_ruled 171 = .ok (.if_icmp .ne 24, 3) := by decide +kernel
theorem dX11_ruled_174 : decode cX11_ruled 174 = .ok (.iload 6, 2) := by decide +kernel
theorem dX11_ruled_176 : decode cX11_ruled 176 = .ok (.aload_n 0, 1) := by decide +kernel
theorem dX11_ruled_177 : decode cX11_ruled 177 = .ok (.getfield 57, 3) := by decide +kernel
theorem dX11_ruled_180 : decode cX11_ruled 180 = .ok (.iload 4, 2) := by decide +kernel
theorem dX11_ruled_182 : decode cX11_ruled 182 = .ok (.iload 5, 2) := by decide +kernel
theorem dX11_ruled_184 : decode cX11_ruled 184 = .ok (.invokestatic 332, 3) := by decide +kernel
theorem dX11_ruled_187 : decode cX11_ruled 187 = .ok (.iaload, 1) := by decide +kernel
theorem dX11_ruled_188 : decode cX11_ruled 188 = .ok (.if_icmp .eq 7, 3) := by decide +kernel
theorem dX11_ruled_191 : decode cX11_ruled 191 = .ok (.iconst 1, 1) := by decide +kernel
theorem dX11_ruled_192 : decode cX11_ruled 192 = .ok (.goto 4, 3) := by decide +kernel
theorem dX11_ruled_195 : decode cX11_ruled 195 = .ok (.iconst 0, 1) := by decide +kernel
theorem dX11_ruled_196 : decode cX11_ruled 196 = .ok (.istore 7, 2) := by decide +kernel
theorem dX11_ruled_198 : decode cX11_ruled 198 = .ok (.iload_n 3, 1) := by decide +kernel
theorem dX11_ruled_199 : decode cX11_ruled 199 = .ok (.iload 7, 2) := by decide +kernel
theorem dX11_ruled_201 : decode cX11_ruled 201 = .ok (.ifCond .eq 7, 3) := by decide +kernel
theorem dX11_ruled_204 : decode cX11_ruled 204 = .ok (.iconst 1, 1) := by decide +kernel
theorem dX11_ruled_205 : decode cX11_ruled 205 = .ok (.goto 4, 3) := by decide +kernel
theorem dX11_ruled_208 : decode cX11_ruled 208 = .ok (.iconst 0, 1) := by decide +kernel
theorem dX11_ruled_209 : decode cX11_ruled 209 = .ok (.iadd, 1) := by decide +kernel
theorem dX11_ruled_210 : decode cX11_ruled 210 = .ok (.istore_n 3, 1) := by decide +kernel
theorem dX11_ruled_211 : decode cX11_ruled 211 = .ok (.iinc 5 1, 3) := by decide +kernel
theorem dX11_ruled_214 : decode cX11_ruled 214 = .ok (.goto (-132), 3) := by decide +kernel
theorem dX11_ruled_217 : decode cX11_ruled 217 = .ok (.iinc 4 1, 3) := by decide +kernel
theorem dX11_ruled_220 : decode cX11_ruled 220 = .ok (.goto (-188), 3) := by decide +kernel
theorem dX11_ruled_223 : decode cX11_ruled 223 = .ok (.iload_n 3, 1) := by decide +kernel
theorem dX11_ruled_224 : decode cX11_ruled 224 = .ok (.ireturn, 1) := by decide +kernel
theorem dX11_run_0 : decode cX11_run 0 = .ok (.aload_n 0, 1) := by decide +kernel
theorem dX11_run_1 : decode cX11_run 1 = .ok (.iconst 0, 1) := by decide +kernel
theorem dX11_run_2 : decode cX11_run 2 = .ok (.putfield 80, 3) := by decide +kernel
theorem dX11_run_5 : decode cX11_run 5 = .ok (.aload_n 0, 1) := by decide +kernel
theorem dX11_run_6 : decode cX11_run 6 = .ok (.getfield 232, 3) := by decide +kernel
theorem dX11_run_9 : decode cX11_run 9 = .ok (.ifCond .eq 17, 3) := by decide +kernel
theorem dX11_run_12 : decode cX11_run 12 = .ok (.aload_n 0, 1) := by decide +kernel
theorem dX11_run_13 : decode cX11_run 13 = .ok (.getfield 57, 3) := by decide +kernel
theorem dX11_run_16 : decode cX11_run 16 = .ok (.bipush 72, 2) := by decide +kernel
theorem dX11_run_18 : decode cX11_run 18 = .ok (.iaload, 1) := by decide +kernel
theorem dX11_run_19 : decode cX11_run 19 = .ok (.aload_n 0, 1) := by decide +kernel
theorem dX11_run_20 : decode cX11_run 20 = .ok (.invokevirtual 335, 3) := by decide +kernel
theorem dX11_run_23 : decode cX11_run 23 = .ok (.if_icmp .ne 5, 3) := by decide +kernel
theorem dX11_run_26 : decode cX11_run 26 = .ok (.iconst (-1), 1) := by decide +kernel
theorem dX11_run_27 : decode cX11_run 27 = .ok (.ireturn, 1) := by decide +kernel
theorem dX11_run_28 : decode cX11_run 28 = .ok (.aload_n 0, 1) := by decide +kernel
theorem dX11_run_29 : decode cX11_run 29 = .ok (.invokevirtual 335, 3) := by decide +kernel
theorem dX11_run_32 : decode cX11_run 32 = .ok (.aload_n 0, 1) := by decide +kernel
theorem dX11_run_33 : decode cX11_run 33 = .ok (.getfield 57, 3) := by decide +kernel
theorem dX11_run_36 : decode cX11_run 36 = .ok (.bipush 72, 2) := by decide +kernel
theorem dX11_run_38 : decode cX11_run 38 = .ok (.iaload, 1) := by decide +kernel
theorem dX11_run_39 : decode cX11_run 39 = .ok (.isub, 1) := by decide +kernel
theorem dX11_run_40 : decode cX11_run 40 = .ok (.istore_n 1, 1) := by decide +kernel
theorem dX11_run_41 : decode cX11_run 41 = .ok (.iconst 0, 1) := by decide +kernel
theorem dX11_run_42 : decode cX11_run 42 = .ok (.istore_n 2, 1) := by decide +kernel
theorem dX11_run_43 : decode cX11_run 43 = .ok (.iload_n 2, 1) := by decide +kernel
theorem dX11_run_44 : decode cX11_run 44 = .ok (.iload_n 1, 1) := by decide +kernel
theorem dX11_run_45 : decode cX11_run 45 = .ok (.if_icmp .ge 13, 3) := by decide +kernel
theorem dX11_run_48 : decode cX11_run 48 = .ok (.aload_n 0, 1) := by decide +kernel
theorem dX11_run_49 : decode cX11_run 49 = .ok (.invokevirtual 338, 3) := by decide +kernel
theorem dX11_run_52 : decode cX11_run 52 = .ok (.iinc 2 1, 3) := by decide +kernel
theorem dX11_run_55 : decode cX11_run 55 = .ok (.goto (-12), 3) := by decide +kernel
theorem dX11_run_58 : decode cX11_run 58 = .ok (.iload_n 1, 1) := by decide +kernel
theorem dX11_run_59 : decode cX11_run 59 = .ok (.ireturn, 1) := by decide +kernel
theorem dX11_say_0 : decode cX11_say 0 = .ok (.aload_n 0, 1) := by decide +kernel
theorem dX11_say_1 : decode cX11_say 1 = .ok (.iconst 0, 1) := by decide +kernel
theorem dX11_say_2 : decode cX11_say 2 = .ok (.putfield 80, 3) := by decide +kernel
theorem dX11_say_5 : decode cX11_say 5 = .ok (.aload_n 0, 1) := by decide +kernel
theorem dX11_say_6 : decode cX11_say 6 = .ok (.getfield 232, 3) := by decide +kernel
theorem dX11_say_9 : decode cX11_say 9 = .ok (.ifCond .ne 9, 3) := by decide +kernel
theorem dX11_say_12 : decode cX11_say 12 = .ok (.aload_n 0, 1) := by decide +kernel
theorem dX11_say_13 : decode cX11_say 13 = .ok (.iconst 0, 1) := by decide +kernel
theorem dX11_say_14 : decode cX11_say 14 = .ok (.invokevirtual 341, 3) := by decide +kernel
theorem dX11_say_17 : decode cX11_say 17 = .ok (.ireturn, 1) := by decide +kernel
theorem dX11_say_18 : decode cX11_say 18 = .ok (.aload_n 0, 1) := by decide +kernel
theorem dX11_say_19 : decode cX11_say 19 = .ok (.iload_n 1, 1) := by decide +kernel
theorem dX11_say_20 : decode cX11_say 20 = .ok (.iload_n 2, 1) := by decide +kernel
theorem dX11_say_21 : decode cX11_say 21 = .ok (.invokevirtual 344, 3) := by decide +kernel
theorem dX11_say_24 : decode cX11_say 24 = .ok (.ifCond .eq 33, 3) := by decide +kernel
theorem dX11_say_27 : decode cX11_say 27 = .ok (.aload_n 0, 1) := by decide +kernel
theorem dX11_say_28 : decode cX11_say 28 = .ok (.iload_n 3, 1) := by decide +kernel
theorem dX11_say_29 : decode cX11_say 29 = .ok (.invokevirtual 347, 3) := by decide +kernel
theorem dX11_say_32 : decode cX11_say 32 = .ok (.ifCond .eq 25, 3) := by decide +kernel
theorem dX11_say_35 : decode cX11_say 35 = .ok (.aload_n 0, 1) := by decide +kernel
theorem dX11_say_36 : decode cX11_say 36 = .ok (.iload 4, 2) := by decide +kernel
theorem dX11_say_38 : decode cX11_say 38 = .ok (.invokevirtual 347, 3) := by decide +kernel
theorem dX11_say_41 : decode cX11_say 41 = .ok (.ifCond .eq 16, 3) := by decide +kernel
theorem dX11_say_44 : decode cX11_say 44 = .ok (.iload 5, 2) := by decide +kernel
theorem dX11_say_46 : decode cX11_say 46 = .ok (.i2l, 1) := by decide +kernel
theorem dX11_say_47 : decode cX11_say 47 = .ok (.lconst 0, 1) := by decide +kernel
theorem dX11_say_48 : decode cX11_say 48 = .ok (.ldc2_w 350, 3) := by decide +kernel
theorem dX11_say_51 : decode cX11_say 51 = .ok (.invokestatic 132, 3) := by decide +kernel
theorem dX11_say_54 : decode cX11_say 54 = .ok (.ifCond .ne 9, 3) := by decide +kernel
theorem dX11_say_57 : decode cX11_say 57 = .ok (.aload_n 0, 1) := by decide +kernel
theorem dX11_say_58 : decode cX11_say 58 = .ok (.iconst 1, 1) := by decide +kernel
theorem dX11_say_59 : decode cX11_say 59 = .ok (.invokevirtual 341, 3) := by decide +kernel
theorem dX11_say_62 : decode cX11_say 62 = .ok (.ireturn, 1) := by decide +kernel
theorem dX11_say_63 : decode cX11_say 63 = .ok (.aload_n 0, 1) := by decide +kernel
theorem dX11_say_64 : decode cX11_say 64 = .ok (.invokevirtual 329, 3) := by decide +kernel
theorem dX11_say_67 : decode cX11_say 67 = .ok (.aload_n 0, 1) := by decide +kernel
theorem dX11_say_68 : decode cX11_say 68 = .ok (.iload_n 3, 1) := by decide +kernel
theorem dX11_say_69 : decode cX11_say 69 = .ok (.invokevirtual 274, 3) := by decide +kernel
theorem dX11_say_72 : decode cX11_say 72 = .ok (.ifCond .ne 9, 3) := by decide +kernel
theorem dX11_say_75 : decode cX11_say 75 = .ok (.aload_n 0, 1) := by decide +kernel
theorem dX11_say_76 : decode cX11_say 76 = .ok (.iconst 2, 1) := by decide +kernel
theorem dX11_say_77 : decode cX11_say 77 = .ok (.invokevirtual 341, 3) := by decide +kernel
theorem dX11_say_80 : decode cX11_say 80 = .ok (.ireturn, 1) := by decide +kernel
theorem dX11_say_81 : decode cX11_say 81 = .ok (.aload_n 0, 1) := by decide +kernel
theorem dX11_say_82 : decode cX11_say 82 = .ok (.invokevirtual 287, 3) := by decide +kernel
theorem dX11_say_85 : decode cX11_say 85 = .ok (.iload_n 1, 1) := by decide +kernel
theorem dX11_say_86 : decode cX11_say 86 = .ok (.imul, 1) := by decide +kernel
theorem dX11_say_87 : decode cX11_say 87 = .ok (.iload_n 2, 1) := by decide +kernel
theorem dX11_say_88 : decode cX11_say 88 = .ok (.iadd, 1) := by decide +kernel
theorem dX11_say_89 : decode cX11_say 89 = .ok (.aload_n 0, 1) := by decide +kernel
theorem dX11_say_90 : decode cX11_say 90 = .ok (.getfield 251, 3) := by decide +kernel
theorem dX11_say_93 : decode cX11_say 93 = .ok (.if_icmp .ge 9, 3) := by decide +kernel
theorem dX11_say_96 : decode cX11_say 96 = .ok (.aload_n 0, 1) := by decide +kernel
theorem dX11_say_97 : decode cX11_say 97 = .ok (.iconst 3, 1) := by decide +kernel
theorem dX11_say_98 : decode cX11_say 98 = .ok (.invokevirtual 341, 3) := by decide +kernel
theorem dX11_say_101 : decode cX11_say 101 = .ok (.ireturn, 1) := by decide +kernel
theorem dX11_say_102 : decode cX11_say 102 = .ok (.aload_n 0, 1) := by decide +kernel
theorem dX11_say_103 : decode cX11_say 103 = .ok (.getfield 236, 3) := by decide +kernel
theorem dX11_say_106 : decode cX11_say 106 = .ok (.bipush 30, 2) := by decide +kernel
theorem dX11_say_108 : decode cX11_say 108 = .ok (.if_icmp .ne 9, 3) := by decide +kernel
theorem dX11_say_111 : decode cX11_say 111 = .ok (.aload_n 0, 1) := by decide +kernel
theorem dX11_say_112 : decode cX11_say 112 = .ok (.iconst 4, 1) := by decide +kernel
theorem dX11_say_113 : decode cX11_say 113 = .ok (.invokevirtual 341, 3) := by decide +kernel
theorem dX11_say_116 : decode cX11_say 116 = .ok (.ireturn, 1) := by decide +kernel
theorem dX11_say_117 : decode cX11_say 117 = .ok (.aload_n 0, 1) := by decide +kernel
theorem dX11_say_118 : decode cX11_say 118 = .ok (.invokevirtual 326, 3) := by decide +kernel
theorem dX11_say_121 : decode cX11_say 121 = .ok (.iconst 5, 1) := by decide +kernel
theorem dX11_say_122 : decode cX11_say 122 = .ok (.aload_n 0, 1) := by decide +kernel
theorem dX11_say_123 : decode cX11_say 123 = .ok (.getfield 236, 3) := by decide +kernel
theorem dX11_say_126 : decode cX11_say 126 = .ok (.imul, 1) := by decide +kernel
theorem dX11_say_127 : decode cX11_say 127 = .ok (.istore 6, 2) := by decide +kernel
theorem dX11_say_129 : decode cX11_say 129 = .ok (.aload_n 0, 1) := by decide +kernel
theorem dX11_say_130 : decode cX11_say 130 = .ok (.getfield 23, 3) := by decide +kernel
theorem dX11_say_133 : decode cX11_say 133 = .ok (.iload 6, 2) := by decide +kernel
theorem dX11_say_135 : decode cX11_say 135 = .ok (.iload_n 1, 1) := by decide +kernel
theorem dX11_say_136 : decode cX11_say 136 = .ok (.iastore, 1) := by decide +kernel
theorem dX11_say_137 : decode cX11_say 137 = .ok (.aload_n 0, 1) := by decide +kernel
theorem dX11_say_138 : decode cX11_say 138 = .ok (.getfield 23, 3) := by decide +kernel
theorem dX11_say_141 : decode cX11_say 141 = .ok (.iload 6, 2) := by decide +kernel
theorem dX11_say_143 : decode cX11_say 143 = .ok (.iconst 1, 1) := by decide +kernel
theorem dX11_say_144 : decode cX11_say 144 = .ok (.iadd, 1) := by decide +kernel
theorem dX11_say_145 : decode cX11_say 145 = .ok (.iload_n 2, 1) := by decide +kernel
theorem dX11_say_146 : decode cX11_say 146 = .ok (.iastore, 1) := by decide +kernel
theorem dX11_say_147 : decode cX11_say 147 = .ok (.aload_n 0, 1) := by decide +kernel
theorem dX11_say_148 : decode cX11_say 148 = .ok (.getfield 23, 3) := by decide +kernel
theorem dX11_say_151 : decode cX11_say 151 = .ok (.iload 6, 2) := by decide +kernel
theorem dX11_say_153 : decode cX11_say 153 = .ok (.iconst 2, 1) := by decide +kernel
theorem dX11_say_154 : decode cX11_say 154 = .ok (.iadd, 1) := by decide +kernel
theorem dX11_say_155 : decode cX11_say 155 = .ok (.iload_n 3, 1) := by decide +kernel
theorem dX11_say_156 : decode cX11_say 156 = .ok (.iastore, 1) := by decide +kernel
theorem dX11_say_157 : decode cX11_say 157 = .ok (.aload_n 0, 1) := by decide +kernel
theorem dX11_say_158 : decode cX11_say 158 = .ok (.getfield 23, 3) := by decide +kernel
theorem dX11_say_161 : decode cX11_say 161 = .ok (.iload 6, 2) := by decide +kernel
theorem dX11_say_163 : decode cX11_say 163 = .ok (.iconst 3, 1) := by decide +kernel
theorem dX11_say_164 : decode cX11_say 164 = .ok (.iadd, 1) := by decide +kernel
theorem dX11_say_165 : decode cX11_say 165 = .ok (.iload 4, 2) := by decide +kernel
theorem dX11_say_167 : decode cX11_say 167 = .ok (.iastore, 1) := by decide +kernel
theorem dX11_say_168 : decode cX11_say 168 = .ok (.aload_n 0, 1) := by decide +kernel
theorem dX11_say_169 : decode cX11_say 169 = .ok (.getfield 23, 3) := by decide +kernel
theorem dX11_say_172 : decode cX11_say 172 = .ok (.iload 6, 2) := by decide +kernel
theorem dX11_say_174 : decode cX11_say 174 = .ok (.iconst 4, 1) := by decide +kernel
theorem dX11_say_175 : decode cX11_say 175 = .ok (.iadd, 1) := by decide +kernel
theorem dX11_say_176 : decode cX11_say 176 = .ok (.iload 5, 2) := by decide +kernel
theorem dX11_say_178 : decode cX11_say 178 = .ok (.iastore, 1) := by decide +kernel
theorem dX11_say_179 : decode cX11_say 179 = .ok (.aload_n 0, 1) := by decide +kernel
theorem dX11_say_180 : decode cX11_say 180 = .ok (.dup, 1) := by decide +kernel
theorem dX11_say_181 : decode cX11_say 181 = .ok (.getfield 236, 3) := by decide +kernel
theorem dX11_say_184 : decode cX11_say 184 = .ok (.iconst 1, 1) := by decide +kernel
theorem dX11_say_185 : decode cX11_say 185 = .ok (.iadd, 1) := by decide +kernel
theorem dX11_say_186 : decode cX11_say 186 = .ok (.putfield 236, 3) := by decide +kernel
theorem dX11_say_189 : decode cX11_say 189 = .ok (.aload_n 0, 1) := by decide +kernel
theorem dX11_say_190 : decode cX11_say 190 = .ok (.invokevirtual 323, 3) := by decide +kernel
theorem dX11_say_193 : decode cX11_say 193 = .ok (.aload_n 0, 1) := by decide +kernel
theorem dX11_say_194 : decode cX11_say 194 = .ok (.getfield 236, 3) := by decide +kernel
theorem dX11_say_197 : decode cX11_say 197 = .ok (.ireturn, 1) := by decide +kernel
theorem dX11_starts__0 : decode cX11_starts_ 0 = .ok (.aload_n 0, 1) := by decide +kernel
theorem dX11_starts__1 : decode cX11_starts_ 1 = .ok (.iconst 0, 1) := by decide +kernel
theorem dX11_starts__2 : decode cX11_starts_ 2 = .ok (.putfield 80, 3) := by decide +kernel
theorem dX11_starts__5 : decode cX11_starts_ 5 = .ok (.aload_n 0, 1) := by decide +kernel
theorem dX11_starts__6 : decode cX11_starts_ 6 = .ok (.getfield 232, 3) := by decide +kernel
theorem dX11_starts__9 : decode cX11_starts_ 9 = .ok (.ifCond .ne 9, 3) := by decide +kernel
theorem dX11_starts__12 : decode cX11_starts_ 12 = .ok (.aload_n 0, 1) := by decide +kernel
theorem dX11_starts__13 : decode cX11_starts_ 13 = .ok (.iconst 0, 1) := by decide +kernel
theorem dX11_starts__14 : decode cX11_starts_ 14 = .ok (.invokevirtual 341, 3) := by decide +kernel
theorem dX11_starts__17 : decode cX11_starts_ 17 = .ok (.ireturn, 1) := by decide +kernel
theorem dX11_starts__18 : decode cX11_starts_ 18 = .ok (.iload_n 1, 1) := by decide +kernel
theorem dX11_starts__19 : decode cX11_starts_ 19 = .ok (.i2l, 1) := by decide +kernel
theorem dX11_starts__20 : decode cX11_starts_ 20 = .ok (.lconst 0, 1) := by decide +kernel
theorem dX11_starts__21 : decode cX11_starts_ 21 = .ok (.iconst 1, 1) := by decide +kernel
theorem dX11_starts__22 : decode cX11_starts_ 22 = .ok (.aload_n 0, 1) := by decide +kernel
theorem dX11_starts__23 : decode cX11_starts_ 23 = .ok (.getfield 215, 3) := by decide +kernel
theorem dX11_starts__26 : decode cX11_starts_ 26 = .ok (.ishl, 1) := by decide +kernel
theorem dX11_starts__27 : decode cX11_starts_ 27 = .ok (.iconst 1, 1) := by decide +kernel
theorem dX11_starts__28 : decode cX11_starts_ 28 = .ok (.isub, 1) := by decide +kernel
theorem dX11_starts__29 : decode cX11_starts_ 29 = .ok (.i2l, 1) := by decide +kernel
theorem dX11_starts__30 : decode cX11_starts_ 30 = .ok (.invokestatic 132, 3) := by decide +kernel
theorem dX11_starts__33 : decode cX11_starts_ 33 = .ok (.ifCond .ne 9, 3) := by decide +kernel
theorem dX11_starts__36 : decode cX11_starts_ 36 = .ok (.aload_n 0, 1) := by decide +kernel
theorem dX11_starts__37 : decode cX11_starts_ 37 = .ok (.iconst 1, 1) := by decide +kernel
theorem dX11_starts__38 : decode cX11_starts_ 38 = .ok (.invokevirtual 341, 3) := by decide +kernel
theorem dX11_starts__41 : decode cX11_starts_ 41 = .ok (.ireturn, 1) := by decide +kernel
theorem dX11_starts__42 : decode cX11_starts_ 42 = .ok (.aload_n 0, 1) := by decide +kernel
theorem dX11_starts__43 : decode cX11_starts_ 43 = .ok (.invokevirtual 329, 3) := by decide +kernel
theorem dX11_starts__46 : decode cX11_starts_ 46 = .ok (.aload_n 0, 1) := by decide +kernel
theorem dX11_starts__47 : decode cX11_starts_ 47 = .ok (.getfield 251, 3) := by decide +kernel
theorem dX11_starts__50 : decode cX11_starts_ 50 = .ok (.ifCond .le 9, 3) := by decide +kernel
theorem dX11_starts__53 : decode cX11_starts_ 53 = .ok (.aload_n 0, 1) := by decide +kernel
theorem dX11_starts__54 : decode cX11_starts_ 54 = .ok (.iconst 3, 1) := by decide +kernel
theorem dX11_starts__55 : decode cX11_starts_ 55 = .ok (.invokevirtual 341, 3) := by decide +kernel
theorem dX11_starts__58 : decode cX11_starts_ 58 = .ok (.ireturn, 1) := by decide +kernel
theorem dX11_starts__59 : decode cX11_starts_ 59 = .ok (.aload_n 0, 1) := by decide +kernel
theorem dX11_starts__60 : decode cX11_starts_ 60 = .ok (.invokevirtual 326, 3) := by decide +kernel
theorem dX11_starts__63 : decode cX11_starts_ 63 = .ok (.aload_n 0, 1) := by decide +kernel
theorem dX11_starts__64 : decode cX11_starts_ 64 = .ok (.getfield 224, 3) := by decide +kernel
theorem dX11_starts__67 : decode cX11_starts_ 67 = .ok (.istore_n 2, 1) := by decide +kernel
theorem dX11_starts__68 : decode cX11_starts_ 68 = .ok (.aload_n 0, 1) := by decide +kernel
theorem dX11_starts__69 : decode cX11_starts_ 69 = .ok (.iload_n 1, 1) := by decide +kernel
theorem dX11_starts__70 : decode cX11_starts_ 70 = .ok (.putfield 224, 3) := by decide +kernel
theorem dX11_starts__73 : decode cX11_starts_ 73 = .ok (.aload_n 0, 1) := by decide +kernel
theorem dX11_starts__74 : decode cX11_starts_ 74 = .ok (.invokevirtual 314, 3) := by decide +kernel
theorem dX11_starts__77 : decode cX11_starts_ 77 = .ok (.aload_n 0, 1) := by decide +kernel
theorem dX11_starts__78 : decode cX11_starts_ 78 = .ok (.invokevirtual 323, 3) := by decide +kernel
theorem dX11_starts__81 : decode cX11_starts_ 81 = .ok (.iload_n 2, 1) := by decide +kernel
theorem dX11_starts__82 : decode cX11_starts_ 82 = .ok (.ireturn, 1) := by decide +kernel
theorem dX11_state_0 : decode cX11_state 0 = .ok (.aload_n 0, 1) := by decide +kernel
theorem dX11_state_1 : decode cX11_state 1 = .ok (.iconst 0, 1) := by decide +kernel
theorem dX11_state_2 : decode cX11_state 2 = .ok (.putfield 80, 3) := by decide +kernel
theorem dX11_state_5 : decode cX11_state 5 = .ok (.aload_n 0, 1) := by decide +kernel
theorem dX11_state_6 : decode cX11_state 6 = .ok (.getfield 232, 3) := by decide +kernel
theorem dX11_state_9 : decode cX11_state 9 = .ok (.ifCond .ne 5, 3) := by decide +kernel
theorem dX11_state_12 : decode cX11_state 12 = .ok (.iconst (-1), 1) := by decide +kernel
theorem dX11_state_13 : decode cX11_state 13 = .ok (.ireturn, 1) := by decide +kernel
theorem dX11_state_14 : decode cX11_state 14 = .ok (.aload_n 0, 1) := by decide +kernel
theorem dX11_state_15 : decode cX11_state 15 = .ok (.invokevirtual 358, 3) := by decide +kernel
theorem dX11_state_18 : decode cX11_state 18 = .ok (.iconst 1, 1) := by decide +kernel
theorem dX11_state_19 : decode cX11_state 19 = .ok (.isub, 1) := by decide +kernel
theorem dX11_state_20 : decode cX11_state 20 = .ok (.istore_n 2, 1) := by decide +kernel
theorem dX11_state_21 : decode cX11_state 21 = .ok (.iload_n 1, 1) := by decide +kernel
theorem dX11_state_22 : decode cX11_state 22 = .ok (.tableswitch 86 0 3 #[30, 44, 50, 72], 30) := by decide +kernel
theorem dX11_state_52 : decode cX11_state 52 = .ok (.aload_n 0, 1) := by decide +kernel
theorem dX11_state_53 : decode cX11_state 53 = .ok (.iload_n 2, 1) := by decide +kernel
theorem dX11_state_54 : decode cX11_state 54 = .ok (.invokevirtual 369, 3) := by decide +kernel
theorem dX11_state_57 : decode cX11_state 57 = .ok (.ifCond .eq 7, 3) := by decide +kernel
theorem dX11_state_60 : decode cX11_state 60 = .ok (.iconst 1, 1) := by decide +kernel
theorem dX11_state_61 : decode cX11_state 61 = .ok (.goto 4, 3) := by decide +kernel
theorem dX11_state_64 : decode cX11_state 64 = .ok (.iconst 0, 1) := by decide +kernel
theorem dX11_state_65 : decode cX11_state 65 = .ok (.ireturn, 1) := by decide +kernel
theorem dX11_state_66 : decode cX11_state 66 = .ok (.aload_n 0, 1) := by decide +kernel
theorem dX11_state_67 : decode cX11_state 67 = .ok (.iload_n 2, 1) := by decide +kernel
theorem dX11_state_68 : decode cX11_state 68 = .ok (.invokevirtual 372, 3) := by decide +kernel
theorem dX11_state_71 : decode cX11_state 71 = .ok (.ireturn, 1) := by decide +kernel
theorem dX11_state_72 : decode cX11_state 72 = .ok (.aload_n 0, 1) := by decide +kernel
theorem dX11_state_73 : decode cX11_state 73 = .ok (.iload_n 2, 1) := by decide +kernel
theorem dX11_state_74 : decode cX11_state 74 = .ok (.invokevirtual 369, 3) := by decide +kernel
theorem dX11_state_77 : decode cX11_state 77 = .ok (.ifCond .eq 15, 3) := by decide +kernel
theorem dX11_state_80 : decode cX11_state 80 = .ok (.aload_n 0, 1) := by decide +kernel
theorem dX11_state_81 : decode cX11_state 81 = .ok (.iload_n 2, 1) := by decide +kernel
theorem dX11_state_82 : decode cX11_state 82 = .ok (.invokevirtual 375, 3) := by decide +kernel
theorem dX11_state_85 : decode cX11_state 85 = .ok (.ifCond .eq 7, 3) := by decide +kernel
theorem dX11_state_88 : decode cX11_state 88 = .ok (.iconst 1, 1) := by decide +kernel
theorem dX11_state_89 : decode cX11_state 89 = .ok (.goto 4, 3) := by decide +kernel
theorem dX11_state_92 : decode cX11_state 92 = .ok (.iconst 0, 1) := by decide +kernel
theorem dX11_state_93 : decode cX11_state 93 = .ok (.ireturn, 1) := by decide +kernel
theorem dX11_state_94 : decode cX11_state 94 = .ok (.aload_n 0, 1) := by decide +kernel
theorem dX11_state_95 : decode cX11_state 95 = .ok (.iconst (-1), 1) := by decide +kernel
theorem dX11_state_96 : decode cX11_state 96 = .ok (.invokevirtual 369, 3) := by decide +kernel
theorem dX11_state_99 : decode cX11_state 99 = .ok (.ifCond .eq 7, 3) := by decide +kernel
theorem dX11_state_102 : decode cX11_state 102 = .ok (.iconst 1, 1) := by decide +kernel
theorem dX11_state_103 : decode cX11_state 103 = .ok (.goto 4, 3) := by decide +kernel
theorem dX11_state_106 : decode cX11_state 106 = .ok (.iconst 0, 1) := by decide +kernel
theorem dX11_state_107 : decode cX11_state 107 = .ok (.ireturn, 1) := by decide +kernel
theorem dX11_state_108 : decode cX11_state 108 = .ok (.iconst (-1), 1) := by decide +kernel
theorem dX11_state_109 : decode cX11_state 109 = .ok (.ireturn, 1) := by decide +kernel
theorem dX11_takes_0 : decode cX11_takes 0 = .ok (.aload_n 0, 1) := by decide +kernel
theorem dX11_takes_1 : decode cX11_takes 1 = .ok (.invokevirtual 105, 3) := by decide +kernel
theorem dX11_takes_4 : decode cX11_takes 4 = .ok (.istore_n 2, 1) := by decide +kernel
theorem dX11_takes_5 : decode cX11_takes 5 = .ok (.iconst 0, 1) := by decide +kernel
theorem dX11_takes_6 : decode cX11_takes 6 = .ok (.istore_n 3, 1) := by decide +kernel
theorem dX11_takes_7 : decode cX11_takes 7 = .ok (.iload_n 3, 1) := by decide +kernel
theorem dX11_takes_8 : decode cX11_takes 8 = .ok (.aload_n 1, 1) := by decide +kernel
theorem dX11_takes_9 : decode cX11_takes 9 = .ok (.invokevirtual 108, 3) := by decide +kernel
theorem dX11_takes_12 : decode cX11_takes 12 = .ok (.if_icmp .ge 43, 3) := by decide +kernel
theorem dX11_takes_15 : decode cX11_takes 15 = .ok (.aload_n 0, 1) := by decide +kernel
theorem dX11_takes_16 : decode cX11_takes 16 = .ok (.getfield 95, 3) := by decide +kernel
theorem dX11_takes_19 : decode cX11_takes 19 = .ok (.iload_n 3, 1) := by decide +kernel
theorem dX11_takes_20 : decode cX11_takes 20 = .ok (.iadd, 1) := by decide +kernel
theorem dX11_takes_21 : decode cX11_takes 21 = .ok (.aload_n 0, 1) := by decide +kernel
theorem dX11_takes_22 : decode cX11_takes 22 = .ok (.getfield 84, 3) := by decide +kernel
theorem dX11_takes_25 : decode cX11_takes 25 = .ok (.if_icmp .ge 22, 3) := by decide +kernel
theorem dX11_takes_28 : decode cX11_takes 28 = .ok (.aload_n 0, 1) := by decide +kernel
theorem dX11_takes_29 : decode cX11_takes 29 = .ok (.getfield 9, 3) := by decide +kernel
theorem dX11_takes_32 : decode cX11_takes 32 = .ok (.aload_n 0, 1) := by decide +kernel
theorem dX11_takes_33 : decode cX11_takes 33 = .ok (.getfield 95, 3) := by decide +kernel
theorem dX11_takes_36 : decode cX11_takes 36 = .ok (.iload_n 3, 1) := by decide +kernel
theorem dX11_takes_37 : decode cX11_takes 37 = .ok (.iadd, 1) := by decide +kernel
theorem dX11_takes_38 : decode cX11_takes 38 = .ok (.baload, 1) := by decide +kernel
theorem dX11_takes_39 : decode cX11_takes 39 = .ok (.aload_n 1, 1) := by decide +kernel
theorem dX11_takes_40 : decode cX11_takes 40 = .ok (.iload_n 3, 1) := by decide +kernel
theorem dX11_takes_41 : decode cX11_takes 41 = .ok (.invokevirtual 112, 3) := by decide +kernel
theorem dX11_takes_44 : decode cX11_takes 44 = .ok (.if_icmp .eq 5, 3) := by decide +kernel
theorem dX11_takes_47 : decode cX11_takes 47 = .ok (.iconst 0, 1) := by decide +kernel
theorem dX11_takes_48 : decode cX11_takes 48 = .ok (.ireturn, 1) := by decide +kernel
theorem dX11_takes_49 : decode cX11_takes 49 = .ok (.iinc 3 1, 3) := by decide +kernel
theorem dX11_takes_52 : decode cX11_takes 52 = .ok (.goto (-45), 3) := by decide +kernel
theorem dX11_takes_55 : decode cX11_takes 55 = .ok (.aload_n 0, 1) := by decide +kernel
theorem dX11_takes_56 : decode cX11_takes 56 = .ok (.getfield 95, 3) := by decide +kernel
theorem dX11_takes_59 : decode cX11_takes 59 = .ok (.aload_n 1, 1) := by decide +kernel
theorem dX11_takes_60 : decode cX11_takes 60 = .ok (.invokevirtual 108, 3) := by decide +kernel
theorem dX11_takes_63 : decode cX11_takes 63 = .ok (.iadd, 1) := by decide +kernel
theorem dX11_takes_64 : decode cX11_takes 64 = .ok (.istore_n 3, 1) := by decide +kernel
theorem dX11_takes_65 : decode cX11_takes 65 = .ok (.iload_n 3, 1) := by decide +kernel
theorem dX11_takes_66 : decode cX11_takes 66 = .ok (.aload_n 0, 1) := by decide +kernel
theorem dX11_takes_67 : decode cX11_takes 67 = .ok (.getfield 84, 3) := by decide +kernel
theorem dX11_takes_70 : decode cX11_takes 70 = .ok (.if_icmp .ge 27, 3) := by decide +kernel
theorem dX11_takes_73 : decode cX11_takes 73 = .ok (.aload_n 0, 1) := by decide +kernel
theorem dX11_takes_74 : decode cX11_takes 74 = .ok (.getfield 9, 3) := by decide +kernel
theorem dX11_takes_77 : decode cX11_takes 77 = .ok (.iload_n 3, 1) := by decide +kernel
theorem dX11_takes_78 : decode cX11_takes 78 = .ok (.baload, 1) := by decide +kernel
theorem dX11_takes_79 : decode cX11_takes 79 = .ok (.bipush 97, 2) := by decide +kernel
theorem dX11_takes_81 : decode cX11_takes 81 = .ok (.if_icmp .lt 16, 3) := by decide +kernel
theorem dX11_takes_84 : decode cX11_takes 84 = .ok (.aload_n 0, 1) := by decide +kernel
theorem dX11_takes_85 : decode cX11_takes 85 = .ok (.getfield 9, 3) := by decide +kernel
theorem dX11_takes_88 : decode cX11_takes 88 = .ok (.iload_n 3, 1) := by decide +kernel
theorem dX11_takes_89 : decode cX11_takes 89 = .ok (.baload, 1) := by decide +kernel
theorem dX11_takes_90 : decode cX11_takes 90 = .ok (.bipush 122, 2) := by decide +kernel
theorem dX11_takes_92 : decode cX11_takes 92 = .ok (.if_icmp .gt 5, 3) := by decide +kernel
theorem dX11_takes_95 : decode cX11_takes 95 = .ok (.iconst 0, 1) := by decide +kernel
theorem dX11_takes_96 : decode cX11_takes 96 = .ok (.ireturn, 1) := by decide +kernel
theorem dX11_takes_97 : decode cX11_takes 97 = .ok (.aload_n 0, 1) := by decide +kernel
theorem dX11_takes_98 : decode cX11_takes 98 = .ok (.iload_n 3, 1) := by decide +kernel
theorem dX11_takes_99 : decode cX11_takes 99 = .ok (.putfield 95, 3) := by decide +kernel
theorem dX11_takes_102 : decode cX11_takes 102 = .ok (.iconst 1, 1) := by decide +kernel
theorem dX11_takes_103 : decode cX11_takes 103 = .ok (.ireturn, 1) := by decide +kernel
theorem dX11_thrown_0 : decode cX11_thrown 0 = .ok (.aload_n 0, 1) := by decide +kernel
theorem dX11_thrown_1 : decode cX11_thrown 1 = .ok (.getfield 80, 3) := by decide +kernel
theorem dX11_thrown_4 : decode cX11_thrown 4 = .ok (.ireturn, 1) := by decide +kernel
theorem dX11_told_0 : decode cX11_told 0 = .ok (.aload_n 0, 1) := by decide +kernel
theorem dX11_told_1 : decode cX11_told 1 = .ok (.iconst 0, 1) := by decide +kernel
theorem dX11_told_2 : decode cX11_told 2 = .ok (.putfield 80, 3) := by decide +kernel
theorem dX11_told_5 : decode cX11_told 5 = .ok (.aload_n 0, 1) := by decide +kernel
theorem dX11_told_6 : decode cX11_told 6 = .ok (.iload_n 1, 1) := by decide +kernel
theorem dX11_told_7 : decode cX11_told 7 = .ok (.invokevirtual 347, 3) := by decide +kernel
theorem dX11_told_10 : decode cX11_told 10 = .ok (.ifCond .eq 46, 3) := by decide +kernel
theorem dX11_told_13 : decode cX11_told 13 = .ok (.iload_n 2, 1) := by decide +kernel
theorem dX11_told_14 : decode cX11_told 14 = .ok (.i2l, 1) := by decide +kernel
theorem dX11_told_15 : decode cX11_told 15 = .ok (.lconst 0, 1) := by decide +kernel
theorem dX11_told_16 : decode cX11_told 16 = .ok (.aload_n 0, 1) := by decide +kernel
theorem dX11_told_17 : decode cX11_told 17 = .ok (.invokevirtual 358, 3) := by decide +kernel
theorem dX11_told_20 : decode cX11_told 20 = .ok (.iconst 1, 1) := by decide +kernel
theorem dX11_told_21 : decode cX11_told 21 = .ok (.isub, 1) := by decide +kernel
theorem dX11_told_22 : decode cX11_told 22 = .ok (.i2l, 1) := by decide +kernel
theorem dX11_told_23 : decode cX11_told 23 = .ok (.invokestatic 132, 3) := by decide +kernel
theorem dX11_told_26 : decode cX11_told 26 = .ok (.ifCond .eq 30, 3) := by decide +kernel
theorem dX11_told_29 : decode cX11_told 29 = .ok (.iload_n 3, 1) := by decide +kernel
theorem dX11_told_30 : decode cX11_told 30 = .ok (.i2l, 1) := by decide +kernel
theorem dX11_told_31 : decode cX11_told 31 = .ok (.lconst 0, 1) := by decide +kernel
theorem dX11_told_32 : decode cX11_told 32 = .ok (.ldc2_w 361, 3) := by decide +kernel
theorem dX11_told_35 : decode cX11_told 35 = .ok (.invokestatic 132, 3) := by decide +kernel
theorem dX11_told_38 : decode cX11_told 38 = .ok (.ifCond .eq 18, 3) := by decide +kernel
theorem dX11_told_41 : decode cX11_told 41 = .ok (.aload_n 0, 1) := by decide +kernel
theorem dX11_told_42 : decode cX11_told 42 = .ok (.getfield 57, 3) := by decide +kernel
theorem dX11_told_45 : decode cX11_told 45 = .ok (.iload_n 2, 1) := by decide +kernel
theorem dX11_told_46 : decode cX11_told 46 = .ok (.iload_n 1, 1) := by decide +kernel
theorem dX11_told_47 : decode cX11_told 47 = .ok (.invokestatic 332, 3) := by decide +kernel
theorem dX11_told_50 : decode cX11_told 50 = .ok (.iload_n 3, 1) := by decide +kernel
theorem dX11_told_51 : decode cX11_told 51 = .ok (.iadd, 1) := by decide +kernel
theorem dX11_told_52 : decode cX11_told 52 = .ok (.iaload, 1) := by decide +kernel
theorem dX11_told_53 : decode cX11_told 53 = .ok (.goto 4, 3) := by decide +kernel
theorem dX11_told_56 : decode cX11_told 56 = .ok (.iconst (-1), 1) := by decide +kernel
theorem dX11_told_57 : decode cX11_told 57 = .ok (.ireturn, 1) := by decide +kernel
theorem dX11_trueRuler_0 : decode cX11_trueRuler 0 = .ok (.aload_n 0, 1) := by decide +kernel
theorem dX11_trueRuler_1 : decode cX11_trueRuler 1 = .ok (.iconst 0, 1) := by decide +kernel
theorem dX11_trueRuler_2 : decode cX11_trueRuler 2 = .ok (.putfield 80, 3) := by decide +kernel
theorem dX11_trueRuler_5 : decode cX11_trueRuler 5 = .ok (.iconst 0, 1) := by decide +kernel
theorem dX11_trueRuler_6 : decode cX11_trueRuler 6 = .ok (.istore_n 1, 1) := by decide +kernel
theorem dX11_trueRuler_7 : decode cX11_trueRuler 7 = .ok (.iload_n 1, 1) := by decide +kernel
theorem dX11_trueRuler_8 : decode cX11_trueRuler 8 = .ok (.aload_n 0, 1) := by decide +kernel
theorem dX11_trueRuler_9 : decode cX11_trueRuler 9 = .ok (.getfield 220, 3) := by decide +kernel
theorem dX11_trueRuler_12 : decode cX11_trueRuler 12 = .ok (.if_icmp .ge 31, 3) := by decide +kernel
theorem dX11_trueRuler_15 : decode cX11_trueRuler 15 = .ok (.aload_n 0, 1) := by decide +kernel
theorem dX11_trueRuler_16 : decode cX11_trueRuler 16 = .ok (.getfield 232, 3) := by decide +kernel
theorem dX11_trueRuler_19 : decode cX11_trueRuler 19 = .ok (.ifCond .eq 24, 3) := by decide +kernel
theorem dX11_trueRuler_22 : decode cX11_trueRuler 22 = .ok (.aload_n 0, 1) := by decide +kernel
theorem dX11_trueRuler_23 : decode cX11_trueRuler 23 = .ok (.iload_n 1, 1) := by decide +kernel
theorem dX11_trueRuler_24 : decode cX11_trueRuler 24 = .ok (.aload_n 0, 1) := by decide +kernel
theorem dX11_trueRuler_25 : decode cX11_trueRuler 25 = .ok (.getfield 215, 3) := by decide +kernel
theorem dX11_trueRuler_28 : decode cX11_trueRuler 28 = .ok (.irem, 1) := by decide +kernel
theorem dX11_trueRuler_29 : decode cX11_trueRuler 29 = .ok (.invokevirtual 363, 3) := by decide +kernel
theorem dX11_trueRuler_32 : decode cX11_trueRuler 32 = .ok (.ifCond .eq 5, 3) := by decide +kernel
theorem dX11_trueRuler_35 : decode cX11_trueRuler 35 = .ok (.iload_n 1, 1) := by decide +kernel
theorem dX11_trueRuler_36 : decode cX11_trueRuler 36 = .ok (.ireturn, 1) := by decide +kernel
theorem dX11_trueRuler_37 : decode cX11_trueRuler 37 = .ok (.iinc 1 1, 3) := by decide +kernel
theorem dX11_trueRuler_40 : decode cX11_trueRuler 40 = .ok (.goto (-33), 3) := by decide +kernel
theorem dX11_trueRuler_43 : decode cX11_trueRuler 43 = .ok (.iconst (-1), 1) := by decide +kernel
theorem dX11_trueRuler_44 : decode cX11_trueRuler 44 = .ok (.ireturn, 1) := by decide +kernel
theorem dX11_undo_0 : decode cX11_undo 0 = .ok (.aload_n 0, 1) := by decide +kernel
theorem dX11_undo_1 : decode cX11_undo 1 = .ok (.iconst 0, 1) := by decide +kernel
theorem dX11_undo_2 : decode cX11_undo 2 = .ok (.putfield 80, 3) := by decide +kernel
theorem dX11_undo_5 : decode cX11_undo 5 = .ok (.aload_n 0, 1) := by decide +kernel
theorem dX11_undo_6 : decode cX11_undo 6 = .ok (.getfield 239, 3) := by decide +kernel
theorem dX11_undo_9 : decode cX11_undo 9 = .ok (.ifCond .ne 5, 3) := by decide +kernel
theorem dX11_undo_12 : decode cX11_undo 12 = .ok (.iconst (-1), 1) := by decide +kernel
theorem dX11_undo_13 : decode cX11_undo 13 = .ok (.ireturn, 1) := by decide +kernel
theorem dX11_undo_14 : decode cX11_undo 14 = .ok (.aload_n 0, 1) := by decide +kernel
theorem dX11_undo_15 : decode cX11_undo 15 = .ok (.dup, 1) := by decide +kernel
theorem dX11_undo_16 : decode cX11_undo 16 = .ok (.getfield 239, 3) := by decide +kernel
theorem dX11_undo_19 : decode cX11_undo 19 = .ok (.iconst 1, 1) := by decide +kernel
theorem dX11_undo_20 : decode cX11_undo 20 = .ok (.isub, 1) := by decide +kernel
theorem dX11_undo_21 : decode cX11_undo 21 = .ok (.putfield 239, 3) := by decide +kernel
theorem dX11_undo_24 : decode cX11_undo 24 = .ok (.iconst 0, 1) := by decide +kernel
theorem dX11_undo_25 : decode cX11_undo 25 = .ok (.istore_n 1, 1) := by decide +kernel
theorem dX11_undo_26 : decode cX11_undo 26 = .ok (.iload_n 1, 1) := by decide +kernel
theorem dX11_undo_27 : decode cX11_undo 27 = .ok (.sipush 2126, 3) := by decide +kernel
theorem dX11_undo_30 : decode cX11_undo 30 = .ok (.if_icmp .ge 30, 3) := by decide +kernel
theorem dX11_undo_33 : decode cX11_undo 33 = .ok (.aload_n 0, 1) := by decide +kernel
theorem dX11_undo_34 : decode cX11_undo 34 = .ok (.getfield 57, 3) := by decide +kernel
theorem dX11_undo_37 : decode cX11_undo 37 = .ok (.iload_n 1, 1) := by decide +kernel
theorem dX11_undo_38 : decode cX11_undo 38 = .ok (.aload_n 0, 1) := by decide +kernel
theorem dX11_undo_39 : decode cX11_undo 39 = .ok (.getfield 64, 3) := by decide +kernel
theorem dX11_undo_42 : decode cX11_undo 42 = .ok (.sipush 2126, 3) := by decide +kernel
theorem dX11_undo_45 : decode cX11_undo 45 = .ok (.aload_n 0, 1) := by decide +kernel
theorem dX11_undo_46 : decode cX11_undo 46 = .ok (.getfield 239, 3) := by decide +kernel
theorem dX11_undo_49 : decode cX11_undo 49 = .ok (.imul, 1) := by decide +kernel
theorem dX11_undo_50 : decode cX11_undo 50 = .ok (.iload_n 1, 1) := by decide +kernel
theorem dX11_undo_51 : decode cX11_undo 51 = .ok (.iadd, 1) := by decide +kernel
theorem dX11_undo_52 : decode cX11_undo 52 = .ok (.iaload, 1) := by decide +kernel
theorem dX11_undo_53 : decode cX11_undo 53 = .ok (.iastore, 1) := by decide +kernel
theorem dX11_undo_54 : decode cX11_undo 54 = .ok (.iinc 1 1, 3) := by decide +kernel
theorem dX11_undo_57 : decode cX11_undo 57 = .ok (.goto (-31), 3) := by decide +kernel
theorem dX11_undo_60 : decode cX11_undo 60 = .ok (.aload_n 0, 1) := by decide +kernel
theorem dX11_undo_61 : decode cX11_undo 61 = .ok (.aload_n 0, 1) := by decide +kernel
theorem dX11_undo_62 : decode cX11_undo 62 = .ok (.getfield 67, 3) := by decide +kernel
theorem dX11_undo_65 : decode cX11_undo 65 = .ok (.aload_n 0, 1) := by decide +kernel
theorem dX11_undo_66 : decode cX11_undo 66 = .ok (.getfield 239, 3) := by decide +kernel
theorem dX11_undo_69 : decode cX11_undo 69 = .ok (.laload, 1) := by decide +kernel
theorem dX11_undo_70 : decode cX11_undo 70 = .ok (.putfield 320, 3) := by decide +kernel
theorem dX11_undo_73 : decode cX11_undo 73 = .ok (.aload_n 0, 1) := by decide +kernel
theorem dX11_undo_74 : decode cX11_undo 74 = .ok (.getfield 239, 3) := by decide +kernel
theorem dX11_undo_77 : decode cX11_undo 77 = .ok (.ireturn, 1) := by decide +kernel
theorem dX11_weakest_0 : decode cX11_weakest 0 = .ok (.aload_n 0, 1) := by decide +kernel
theorem dX11_weakest_1 : decode cX11_weakest 1 = .ok (.iconst 0, 1) := by decide +kernel
theorem dX11_weakest_2 : decode cX11_weakest 2 = .ok (.putfield 80, 3) := by decide +kernel
theorem dX11_weakest_5 : decode cX11_weakest 5 = .ok (.aload_n 0, 1) := by decide +kernel
theorem dX11_weakest_6 : decode cX11_weakest 6 = .ok (.getfield 232, 3) := by decide +kernel
theorem dX11_weakest_9 : decode cX11_weakest 9 = .ok (.ifCond .ne 6, 3) := by decide +kernel
theorem dX11_weakest_12 : decode cX11_weakest 12 = .ok (.bipush (-2), 2) := by decide +kernel
theorem dX11_weakest_14 : decode cX11_weakest 14 = .ok (.ireturn, 1) := by decide +kernel
theorem dX11_weakest_15 : decode cX11_weakest 15 = .ok (.aload_n 0, 1) := by decide +kernel
theorem dX11_weakest_16 : decode cX11_weakest 16 = .ok (.invokevirtual 329, 3) := by decide +kernel
theorem dX11_weakest_19 : decode cX11_weakest 19 = .ok (.aload_n 0, 1) := by decide +kernel
theorem dX11_weakest_20 : decode cX11_weakest 20 = .ok (.getfield 226, 3) := by decide +kernel
theorem dX11_weakest_23 : decode cX11_weakest 23 = .ok (.istore_n 1, 1) := by decide +kernel
theorem dX11_weakest_24 : decode cX11_weakest 24 = .ok (.iconst 0, 1) := by decide +kernel
theorem dX11_weakest_25 : decode cX11_weakest 25 = .ok (.istore_n 2, 1) := by decide +kernel
theorem dX11_weakest_26 : decode cX11_weakest 26 = .ok (.iload_n 2, 1) := by decide +kernel
theorem dX11_weakest_27 : decode cX11_weakest 27 = .ok (.aload_n 0, 1) := by decide +kernel
theorem dX11_weakest_28 : decode cX11_weakest 28 = .ok (.getfield 215, 3) := by decide +kernel
theorem dX11_weakest_31 : decode cX11_weakest 31 = .ok (.if_icmp .ge 61, 3) := by decide +kernel
theorem dX11_weakest_34 : decode cX11_weakest 34 = .ok (.iload_n 1, 1) := by decide +kernel
theorem dX11_weakest_35 : decode cX11_weakest 35 = .ok (.iload_n 2, 1) := by decide +kernel
theorem dX11_weakest_36 : decode cX11_weakest 36 = .ok (.invokestatic 161, 3) := by decide +kernel
theorem dX11_weakest_39 : decode cX11_weakest 39 = .ok (.ifCond .ne 47, 3) := by decide +kernel
theorem dX11_weakest_42 : decode cX11_weakest 42 = .ok (.iload_n 1, 1) := by decide +kernel
theorem dX11_weakest_43 : decode cX11_weakest 43 = .ok (.iconst 1, 1) := by decide +kernel
theorem dX11_weakest_44 : decode cX11_weakest 44 = .ok (.iload_n 2, 1) := by decide +kernel
theorem dX11_weakest_45 : decode cX11_weakest 45 = .ok (.ishl, 1) := by decide +kernel
theorem dX11_weakest_46 : decode cX11_weakest 46 = .ok (.ior, 1) := by decide +kernel
theorem dX11_weakest_47 : decode cX11_weakest 47 = .ok (.iconst 1, 1) := by decide +kernel
theorem dX11_weakest_48 : decode cX11_weakest 48 = .ok (.aload_n 0, 1) := by decide +kernel
theorem dX11_weakest_49 : decode cX11_weakest 49 = .ok (.getfield 215, 3) := by decide +kernel
theorem dX11_weakest_52 : decode cX11_weakest 52 = .ok (.ishl, 1) := by decide +kernel
theorem dX11_weakest_53 : decode cX11_weakest 53 = .ok (.iconst 1, 1) := by decide +kernel
theorem dX11_weakest_54 : decode cX11_weakest 54 = .ok (.isub, 1) := by decide +kernel
theorem dX11_weakest_55 : decode cX11_weakest 55 = .ok (.if_icmp .ne 6, 3) := by decide +kernel
theorem dX11_weakest_58 : decode cX11_weakest 58 = .ok (.goto 28, 3) := by decide +kernel
theorem dX11_weakest_61 : decode cX11_weakest 61 = .ok (.aload_n 0, 1) := by decide +kernel
theorem dX11_weakest_62 : decode cX11_weakest 62 = .ok (.iload_n 1, 1) := by decide +kernel
theorem dX11_weakest_63 : decode cX11_weakest 63 = .ok (.iconst 1, 1) := by decide +kernel
theorem dX11_weakest_64 : decode cX11_weakest 64 = .ok (.iload_n 2, 1) := by decide +kernel
theorem dX11_weakest_65 : decode cX11_weakest 65 = .ok (.ishl, 1) := by decide +kernel
theorem dX11_weakest_66 : decode cX11_weakest 66 = .ok (.ior, 1) := by decide +kernel
theorem dX11_weakest_67 : decode cX11_weakest 67 = .ok (.putfield 226, 3) := by decide +kernel
theorem dX11_weakest_70 : decode cX11_weakest 70 = .ok (.aload_n 0, 1) := by decide +kernel
theorem dX11_weakest_71 : decode cX11_weakest 71 = .ok (.aload_n 0, 1) := by decide +kernel
theorem dX11_weakest_72 : decode cX11_weakest 72 = .ok (.getfield 220, 3) := by decide +kernel
theorem dX11_weakest_75 : decode cX11_weakest 75 = .ok (.invokevirtual 386, 3) := by decide +kernel
theorem dX11_weakest_78 : decode cX11_weakest 78 = .ok (.bipush 12, 2) := by decide +kernel
theorem dX11_weakest_80 : decode cX11_weakest 80 = .ok (.if_icmp .le 6, 3) := by decide +kernel
theorem dX11_weakest_83 : decode cX11_weakest 83 = .ok (.bipush (-2), 2) := by decide +kernel
theorem dX11_weakest_85 : decode cX11_weakest 85 = .ok (.ireturn, 1) := by decide +kernel
theorem dX11_weakest_86 : decode cX11_weakest 86 = .ok (.iinc 2 1, 3) := by decide +kernel
theorem dX11_weakest_89 : decode cX11_weakest 89 = .ok (.goto (-63), 3) := by decide +kernel
theorem dX11_weakest_92 : decode cX11_weakest 92 = .ok (.iconst 0, 1) := by decide +kernel
theorem dX11_weakest_93 : decode cX11_weakest 93 = .ok (.istore_n 2, 1) := by decide +kernel
theorem dX11_weakest_94 : decode cX11_weakest 94 = .ok (.iload_n 2, 1) := by decide +kernel
theorem dX11_weakest_95 : decode cX11_weakest 95 = .ok (.aload_n 0, 1) := by decide +kernel
theorem dX11_weakest_96 : decode cX11_weakest 96 = .ok (.getfield 215, 3) := by decide +kernel
theorem dX11_weakest_99 : decode cX11_weakest 99 = .ok (.if_icmp .ge 55, 3) := by decide +kernel
theorem dX11_weakest_102 : decode cX11_weakest 102 = .ok (.iload_n 1, 1) := by decide +kernel
theorem dX11_weakest_103 : decode cX11_weakest 103 = .ok (.iload_n 2, 1) := by decide +kernel
theorem dX11_weakest_104 : decode cX11_weakest 104 = .ok (.invokestatic 161, 3) := by decide +kernel
theorem dX11_weakest_107 : decode cX11_weakest 107 = .ok (.ifCond .ne 41, 3) := by decide +kernel
theorem dX11_weakest_110 : decode cX11_weakest 110 = .ok (.iload_n 1, 1) := by decide +kernel
theorem dX11_weakest_111 : decode cX11_weakest 111 = .ok (.iconst 1, 1) := by decide +kernel
theorem dX11_weakest_112 : decode cX11_weakest 112 = .ok (.iload_n 2, 1) := by decide +kernel
theorem dX11_weakest_113 : decode cX11_weakest 113 = .ok (.ishl, 1) := by decide +kernel
theorem dX11_weakest_114 : decode cX11_weakest 114 = .ok (.ior, 1) := by decide +kernel
theorem dX11_weakest_115 : decode cX11_weakest 115 = .ok (.iconst 1, 1) := by decide +kernel
theorem dX11_weakest_116 : decode cX11_weakest 116 = .ok (.aload_n 0, 1) := by decide +kernel
theorem dX11_weakest_117 : decode cX11_weakest 117 = .ok (.getfield 215, 3) := by decide +kernel
theorem dX11_weakest_120 : decode cX11_weakest 120 = .ok (.ishl, 1) := by decide +kernel
theorem dX11_weakest_121 : decode cX11_weakest 121 = .ok (.iconst 1, 1) := by decide +kernel
theorem dX11_weakest_122 : decode cX11_weakest 122 = .ok (.isub, 1) := by decide +kernel
theorem dX11_weakest_123 : decode cX11_weakest 123 = .ok (.if_icmp .ne 6, 3) := by decide +kernel
theorem dX11_weakest_126 : decode cX11_weakest 126 = .ok (.goto 22, 3) := by decide +kernel
theorem dX11_weakest_129 : decode cX11_weakest 129 = .ok (.aload_n 0, 1) := by decide +kernel
theorem dX11_weakest_130 : decode cX11_weakest 130 = .ok (.iload_n 1, 1) := by decide +kernel
theorem dX11_weakest_131 : decode cX11_weakest 131 = .ok (.iconst 1, 1) := by decide +kernel
theorem dX11_weakest_132 : decode cX11_weakest 132 = .ok (.iload_n 2, 1) := by decide +kernel
theorem dX11_weakest_133 : decode cX11_weakest 133 = .ok (.ishl, 1) := by decide +kernel
theorem dX11_weakest_134 : decode cX11_weakest 134 = .ok (.ior, 1) := by decide +kernel
theorem dX11_weakest_135 : decode cX11_weakest 135 = .ok (.putfield 226, 3) := by decide +kernel
theorem dX11_weakest_138 : decode cX11_weakest 138 = .ok (.aload_n 0, 1) := by decide +kernel
theorem dX11_weakest_139 : decode cX11_weakest 139 = .ok (.invokevirtual 399, 3) := by decide +kernel
theorem dX11_weakest_142 : decode cX11_weakest 142 = .ok (.iconst (-1), 1) := by decide +kernel
theorem dX11_weakest_143 : decode cX11_weakest 143 = .ok (.if_icmp .eq 5, 3) := by decide +kernel
theorem dX11_weakest_146 : decode cX11_weakest 146 = .ok (.iload_n 2, 1) := by decide +kernel
theorem dX11_weakest_147 : decode cX11_weakest 147 = .ok (.ireturn, 1) := by decide +kernel
theorem dX11_weakest_148 : decode cX11_weakest 148 = .ok (.iinc 2 1, 3) := by decide +kernel
theorem dX11_weakest_151 : decode cX11_weakest 151 = .ok (.goto (-57), 3) := by decide +kernel
theorem dX11_weakest_154 : decode cX11_weakest 154 = .ok (.iconst (-1), 1) := by decide +kernel
theorem dX11_weakest_155 : decode cX11_weakest 155 = .ok (.ireturn, 1) := by decide +kernel
theorem dX2_clear_0 : decode cX2_clear 0 = .ok (.aload_n 0, 1) := by decide +kernel
theorem dX2_clear_1 : decode cX2_clear 1 = .ok (.iconst 0, 1) := by decide +kernel
theorem dX2_clear_2 : decode cX2_clear 2 = .ok (.putfield 70, 3) := by decide +kernel
theorem dX2_clear_5 : decode cX2_clear 5 = .ok (.aload_n 0, 1) := by decide +kernel
theorem dX2_clear_6 : decode cX2_clear 6 = .ok (.iconst 0, 1) := by decide +kernel
theorem dX2_clear_7 : decode cX2_clear 7 = .ok (.putfield 15, 3) := by decide +kernel
theorem dX2_clear_10 : decode cX2_clear 10 = .ok (.aload_n 0, 1) := by decide +kernel
theorem dX2_clear_11 : decode cX2_clear 11 = .ok (.iconst 0, 1) := by decide +kernel
theorem dX2_clear_12 : decode cX2_clear 12 = .ok (.putfield 24, 3) := by decide +kernel
theorem dX2_clear_15 : decode cX2_clear 15 = .ok (.aload_n 0, 1) := by decide +kernel
theorem dX2_clear_16 : decode cX2_clear 16 = .ok (.iconst 0, 1) := by decide +kernel
theorem dX2_clear_17 : decode cX2_clear 17 = .ok (.putfield 27, 3) := by decide +kernel
theorem dX2_clear_20 : decode cX2_clear 20 = .ok (.aload_n 0, 1) := by decide +kernel
theorem dX2_clear_21 : decode cX2_clear 21 = .ok (.iconst 0, 1) := by decide +kernel
theorem dX2_clear_22 : decode cX2_clear 22 = .ok (.putfield 30, 3) := by decide +kernel
theorem dX2_clear_25 : decode cX2_clear 25 = .ok (.return_, 1) := by decide +kernel
theorem dX2_everybody_0 : decode cX2_everybody 0 = .ok (.iconst 1, 1) := by decide +kernel
theorem dX2_everybody_1 : decode cX2_everybody 1 = .ok (.aload_n 0, 1) := by decide +kernel
theorem dX2_everybody_2 : decode cX2_everybody 2 = .ok (.getfield 15, 3) := by decide +kernel
theorem dX2_everybody_5 : decode cX2_everybody 5 = .ok (.ishl, 1) := by decide +kernel
theorem dX2_everybody_6 : decode cX2_everybody 6 = .ok (.iconst 1, 1) := by decide +kernel
theorem dX2_everybody_7 : decode cX2_everybody 7 = .ok (.isub, 1) := by decide +kernel
theorem dX2_everybody_8 : decode cX2_everybody 8 = .ok (.ireturn, 1) := by decide +kernel
theorem dX2_phaseAt_0 : decode cX2_phaseAt 0 = .ok (.iload_n 1, 1) := by decide +kernel
theorem dX2_phaseAt_1 : decode cX2_phaseAt 1 = .ok (.aload_n 0, 1) := by decide +kernel
theorem dX2_phaseAt_2 : decode cX2_phaseAt 2 = .ok (.invokevirtual 112, 3) := by decide +kernel
theorem dX2_phaseAt_5 : decode cX2_phaseAt 5 = .ok (.idiv, 1) := by decide +kernel
theorem dX2_phaseAt_6 : decode cX2_phaseAt 6 = .ok (.ireturn, 1) := by decide +kernel
theorem dX2_readFrom_0 : decode cX2_readFrom 0 = .ok (.aload_n 0, 1) := by decide +kernel
theorem dX2_readFrom_1 : decode cX2_readFrom 1 = .ok (.invokevirtual 34, 3) := by decide +kernel
theorem dX2_readFrom_4 : decode cX2_readFrom 4 = .ok (.aload_n 1, 1) := by decide +kernel
theorem dX2_readFrom_5 : decode cX2_readFrom 5 = .ok (.invokevirtual 37, 3) := by decide +kernel
theorem dX2_readFrom_8 : decode cX2_readFrom 8 = .ok (.aload_n 0, 1) := by decide +kernel
theorem dX2_readFrom_9 : decode cX2_readFrom 9 = .ok (.aload_n 1, 1) := by decide +kernel
theorem dX2_readFrom_10 : decode cX2_readFrom 10 = .ok (.ldc 42, 2) := by decide +kernel
theorem dX2_readFrom_12 : decode cX2_readFrom 12 = .ok (.invokevirtual 44, 3) := by decide +kernel
theorem dX2_readFrom_15 : decode cX2_readFrom 15 = .ok (.ifCond .eq 7, 3) := by decide +kernel
theorem dX2_readFrom_18 : decode cX2_readFrom 18 = .ok (.iconst 0, 1) := by decide +kernel
theorem dX2_readFrom_19 : decode cX2_readFrom 19 = .ok (.goto 4, 3) := by decide +kernel
theorem dX2_readFrom_22 : decode cX2_readFrom 22 = .ok (.iconst 1, 1) := by decide +kernel
theorem dX2_readFrom_23 : decode cX2_readFrom 23 = .ok (.putfield 9, 3) := by decide +kernel
theorem dX2_readFrom_26 : decode cX2_readFrom 26 = .ok (.aload_n 0, 1) := by decide +kernel
theorem dX2_readFrom_27 : decode cX2_readFrom 27 = .ok (.getfield 9, 3) := by decide +kernel
theorem dX2_readFrom_30 : decode cX2_readFrom 30 = .ok (.iconst 1, 1) := by decide +kernel
theorem dX2_readFrom_31 : decode cX2_readFrom 31 = .ok (.if_icmp .ne 17, 3) := by decide +kernel
theorem dX2_readFrom_34 : decode cX2_readFrom 34 = .ok (.aload_n 1, 1) := by decide +kernel
theorem dX2_readFrom_35 : decode cX2_readFrom 35 = .ok (.ldc 48, 2) := by decide +kernel
theorem dX2_readFrom_37 : decode cX2_readFrom 37 = .ok (.invokevirtual 44, 3) := by decide +kernel
theorem dX2_readFrom_40 : decode cX2_readFrom 40 = .ok (.ifCond .ne 8, 3) := by decide +kernel
theorem dX2_readFrom_43 : decode cX2_readFrom 43 = .ok (.aload_n 1, 1) := by decide +kernel
theorem dX2_readFrom_44 : decode cX2_readFrom 44 = .ok (.getfield 50, 3) := by decide +kernel
theorem dX2_readFrom_47 : decode cX2_readFrom 47 = .ok (.ireturn, 1) := by decide +kernel
theorem dX2_readFrom_48 : decode cX2_readFrom 48 = .ok (.aload_n 1, 1) := by decide +kernel
theorem dX2_readFrom_49 : decode cX2_readFrom 49 = .ok (.invokevirtual 53, 3) := by decide +kernel
theorem dX2_readFrom_52 : decode cX2_readFrom 52 = .ok (.iconst 0, 1) := by decide +kernel
theorem dX2_readFrom_53 : decode cX2_readFrom 53 = .ok (.istore_n 2, 1) := by decide +kernel
theorem dX2_readFrom_54 : decode cX2_readFrom 54 = .ok (.iload_n 2, 1) := by decide +kernel
theorem dX2_readFrom_55 : decode cX2_readFrom 55 = .ok (.bipush 6, 2) := by decide +kernel
theorem dX2_readFrom_57 : decode cX2_readFrom 57 = .ok (.if_icmp .gt 38, 3) := by decide +kernel
theorem dX2_readFrom_60 : decode cX2_readFrom 60 = .ok (.aload_n 1, 1) := by decide +kernel
theorem dX2_readFrom_61 : decode cX2_readFrom 61 = .ok (.getfield 56, 3) := by decide +kernel
theorem dX2_readFrom_64 : decode cX2_readFrom 64 = .ok (.iconst 1, 1) := by decide +kernel
theorem dX2_readFrom_65 : decode cX2_readFrom 65 = .ok (.if_icmp .ne 30, 3) := by decide +kernel
theorem dX2_readFrom_68 : decode cX2_readFrom 68 = .ok (.aload_n 1, 1) := by decide +kernel
theorem dX2_readFrom_69 : decode cX2_readFrom 69 = .ok (.invokevirtual 53, 3) := by decide +kernel
theorem dX2_readFrom_72 : decode cX2_readFrom 72 = .ok (.aload_n 0, 1) := by decide +kernel
theorem dX2_readFrom_73 : decode cX2_readFrom 73 = .ok (.aload_n 1, 1) := by decide +kernel
theorem dX2_readFrom_74 : decode cX2_readFrom 74 = .ok (.invokevirtual 59, 3) := by decide +kernel
theorem dX2_readFrom_77 : decode cX2_readFrom 77 = .ok (.ifCond .ne 8, 3) := by decide +kernel
theorem dX2_readFrom_80 : decode cX2_readFrom 80 = .ok (.aload_n 1, 1) := by decide +kernel
theorem dX2_readFrom_81 : decode cX2_readFrom 81 = .ok (.getfield 50, 3) := by decide +kernel
theorem dX2_readFrom_84 : decode cX2_readFrom 84 = .ok (.ireturn, 1) := by decide +kernel
theorem dX2_readFrom_85 : decode cX2_readFrom 85 = .ok (.aload_n 1, 1) := by decide +kernel
theorem dX2_readFrom_86 : decode cX2_readFrom 86 = .ok (.invokevirtual 53, 3) := by decide +kernel
theorem dX2_readFrom_89 : decode cX2_readFrom 89 = .ok (.iinc 2 1, 3) := by decide +kernel
theorem dX2_readFrom_92 : decode cX2_readFrom 92 = .ok (.goto (-38), 3) := by decide +kernel
theorem dX2_readFrom_95 : decode cX2_readFrom 95 = .ok (.aload_n 1, 1) := by decide +kernel
theorem dX2_readFrom_96 : decode cX2_readFrom 96 = .ok (.getfield 56, 3) := by decide +kernel
theorem dX2_readFrom_99 : decode cX2_readFrom 99 = .ok (.ifCond .ne 11, 3) := by decide +kernel
theorem dX2_readFrom_102 : decode cX2_readFrom 102 = .ok (.aload_n 0, 1) := by decide +kernel
theorem dX2_readFrom_103 : decode cX2_readFrom 103 = .ok (.iconst 0, 1) := by decide +kernel
theorem dX2_readFrom_104 : decode cX2_readFrom 104 = .ok (.invokevirtual 63, 3) := by decide +kernel
theorem dX2_readFrom_107 : decode cX2_readFrom 107 = .ok (.ifCond .ne 8, 3) := by decide +kernel
theorem dX2_readFrom_110 : decode cX2_readFrom 110 = .ok (.aload_n 1, 1) := by decide +kernel
theorem dX2_readFrom_111 : decode cX2_readFrom 111 = .ok (.getfield 50, 3) := by decide +kernel
theorem dX2_readFrom_114 : decode cX2_readFrom 114 = .ok (.ireturn, 1) := by decide +kernel
theorem dX2_readFrom_115 : decode cX2_readFrom 115 = .ok (.aload_n 0, 1) := by decide +kernel
theorem dX2_readFrom_116 : decode cX2_readFrom 116 = .ok (.invokevirtual 67, 3) := by decide +kernel
theorem dX2_readFrom_119 : decode cX2_readFrom 119 = .ok (.iconst (-1), 1) := by decide +kernel
theorem dX2_readFrom_120 : decode cX2_readFrom 120 = .ok (.ireturn, 1) := by decide +kernel
theorem dX2_rounds_0 : decode cX2_rounds 0 = .ok (.aload_n 0, 1) := by decide +kernel
theorem dX2_rounds_1 : decode cX2_rounds 1 = .ok (.getfield 9, 3) := by decide +kernel
theorem dX2_rounds_4 : decode cX2_rounds 4 = .ok (.ifCond .ne 7, 3) := by decide +kernel
theorem dX2_rounds_7 : decode cX2_rounds 7 = .ok (.iconst 3, 1) := by decide +kernel
theorem dX2_rounds_8 : decode cX2_rounds 8 = .ok (.goto 4, 3) := by decide +kernel
theorem dX2_rounds_11 : decode cX2_rounds 11 = .ok (.iconst 2, 1) := by decide +kernel
theorem dX2_rounds_12 : decode cX2_rounds 12 = .ok (.ireturn, 1) := by decide +kernel
theorem dX3_agreedFrom_0 : decode cX3_agreedFrom 0 = .ok (.iconst (-1), 1) := by decide +kernel
theorem dX3_agreedFrom_1 : decode cX3_agreedFrom 1 = .ok (.istore_n 2, 1) := by decide +kernel
theorem dX3_agreedFrom_2 : decode cX3_agreedFrom 2 = .ok (.aload_n 1, 1) := by decide +kernel
theorem dX3_agreedFrom_3 : decode cX3_agreedFrom 3 = .ok (.aload_n 0, 1) := by decide +kernel
theorem dX3_agreedFrom_4 : decode cX3_agreedFrom 4 = .ok (.getfield 47, 3) := by decide +kernel
theorem dX3_agreedFrom_7 : decode cX3_agreedFrom 7 = .ok (.invokevirtual 89, 3) := by decide +kernel
theorem dX3_agreedFrom_10 : decode cX3_agreedFrom 10 = .ok (.iconst 1, 1) := by decide +kernel
theorem dX3_agreedFrom_11 : decode cX3_agreedFrom 11 = .ok (.isub, 1) := by decide +kernel
theorem dX3_agreedFrom_12 : decode cX3_agreedFrom 12 = .ok (.istore_n 3, 1) := by decide +kernel
theorem dX3_agreedFrom_13 : decode cX3_agreedFrom 13 = .ok (.iload_n 3, 1) := by decide +kernel
theorem dX3_agreedFrom_14 : decode cX3_agreedFrom 14 = .ok (.ifCond .lt 25, 3) := by decide +kernel
theorem dX3_agreedFrom_17 : decode cX3_agreedFrom 17 = .ok (.aload_n 0, 1) := by decide +kernel
theorem dX3_agreedFrom_18 : decode cX3_agreedFrom 18 = .ok (.aload_n 1, 1) := by decide +kernel
theorem dX3_agreedFrom_19 : decode cX3_agreedFrom 19 = .ok (.aload_n 0, 1) := by decide +kernel
theorem dX3_agreedFrom_20 : decode cX3_agreedFrom 20 = .ok (.getfield 28, 3) := by decide +kernel
theorem dX3_agreedFrom_23 : decode cX3_agreedFrom 23 = .ok (.iload_n 3, 1) := by decide +kernel
theorem dX3_agreedFrom_24 : decode cX3_agreedFrom 24 = .ok (.iaload, 1) := by decide +kernel
theorem dX3_agreedFrom_25 : decode cX3_agreedFrom 25 = .ok (.invokevirtual 200, 3) := by decide +kernel
theorem dX3_agreedFrom_28 : decode cX3_agreedFrom 28 = .ok (.ifCond .eq 11, 3) := by decide +kernel
theorem dX3_agreedFrom_31 : decode cX3_agreedFrom 31 = .ok (.iload_n 3, 1) := by decide +kernel
theorem dX3_agreedFrom_32 : decode cX3_agreedFrom 32 = .ok (.istore_n 2, 1) := by decide +kernel
theorem dX3_agreedFrom_33 : decode cX3_agreedFrom 33 = .ok (.iinc 3 (-1), 3) := by decide +kernel
theorem dX3_agreedFrom_36 : decode cX3_agreedFrom 36 = .ok (.goto (-23), 3) := by decide +kernel
theorem dX3_agreedFrom_39 : decode cX3_agreedFrom 39 = .ok (.iload_n 2, 1) := by decide +kernel
theorem dX3_agreedFrom_40 : decode cX3_agreedFrom 40 = .ok (.ireturn, 1) := by decide +kernel
theorem dX5_actOf_0 : decode cX5_actOf 0 = .ok (.aload_n 0, 1) := by decide +kernel
theorem dX5_actOf_1 : decode cX5_actOf 1 = .ok (.ldc 71, 2) := by decide +kernel
theorem dX5_actOf_3 : decode cX5_actOf 3 = .ok (.invokevirtual 47, 3) := by decide +kernel
theorem dX5_actOf_6 : decode cX5_actOf 6 = .ok (.ifCond .eq 5, 3) := by decide +kernel
theorem dX5_actOf_9 : decode cX5_actOf 9 = .ok (.iconst 3, 1) := by decide +kernel
theorem dX5_actOf_10 : decode cX5_actOf 10 = .ok (.ireturn, 1) := by decide +kernel
theorem dX5_actOf_11 : decode cX5_actOf 11 = .ok (.aload_n 0, 1) := by decide +kernel
theorem dX5_actOf_12 : decode cX5_actOf 12 = .ok (.ldc 73, 2) := by decide +kernel
theorem dX5_actOf_14 : decode cX5_actOf 14 = .ok (.invokevirtual 47, 3) := by decide +kernel
theorem dX5_actOf_17 : decode cX5_actOf 17 = .ok (.ifCond .eq 5, 3) := by decide +kernel
theorem dX5_actOf_20 : decode cX5_actOf 20 = .ok (.iconst 4, 1) := by decide +kernel
theorem dX5_actOf_21 : decode cX5_actOf 21 = .ok (.ireturn, 1) := by decide +kernel
theorem dX5_actOf_22 : decode cX5_actOf 22 = .ok (.aload_n 0, 1) := by decide +kernel
theorem dX5_actOf_23 : decode cX5_actOf 23 = .ok (.ldc 75, 2) := by decide +kernel
theorem dX5_actOf_25 : decode cX5_actOf 25 = .ok (.invokevirtual 47, 3) := by decide +kernel
theorem dX5_actOf_28 : decode cX5_actOf 28 = .ok (.ifCond .eq 5, 3) := by decide +kernel
theorem dX5_actOf_31 : decode cX5_actOf 31 = .ok (.iconst 5, 1) := by decide +kernel
theorem dX5_actOf_32 : decode cX5_actOf 32 = .ok (.ireturn, 1) := by decide +kernel
theorem dX5_actOf_33 : decode cX5_actOf 33 = .ok (.aload_n 0, 1) := by decide +kernel
theorem dX5_actOf_34 : decode cX5_actOf 34 = .ok (.ldc 77, 2) := by decide +kernel
theorem dX5_actOf_36 : decode cX5_actOf 36 = .ok (.invokevirtual 47, 3) := by decide +kernel
theorem dX5_actOf_39 : decode cX5_actOf 39 = .ok (.ifCond .eq 8, 3) := by decide +kernel
theorem dX5_actOf_42 : decode cX5_actOf 42 = .ok (.bipush 6, 2) := by decide +kernel
theorem dX5_actOf_44 : decode cX5_actOf 44 = .ok (.goto 9, 3) := by decide +kernel
theorem dX5_actOf_47 : decode cX5_actOf 47 = .ok (.aload_n 0, 1) := by decide +kernel
theorem dX5_actOf_48 : decode cX5_actOf 48 = .ok (.iconst 0, 1) := by decide +kernel
theorem dX5_actOf_49 : decode cX5_actOf 49 = .ok (.iconst 2, 1) := by decide +kernel
theorem dX5_actOf_50 : decode cX5_actOf 50 = .ok (.invokevirtual 55, 3) := by decide +kernel
theorem dX5_actOf_53 : decode cX5_actOf 53 = .ok (.ireturn, 1) := by decide +kernel
theorem dX5_readFrom_0 : decode cX5_readFrom 0 = .ok (.aload_n 0, 1) := by decide +kernel
theorem dX5_readFrom_1 : decode cX5_readFrom 1 = .ok (.iconst 0, 1) := by decide +kernel
theorem dX5_readFrom_2 : decode cX5_readFrom 2 = .ok (.putfield 21, 3) := by decide +kernel
theorem dX5_readFrom_5 : decode cX5_readFrom 5 = .ok (.aload_n 1, 1) := by decide +kernel
theorem dX5_readFrom_6 : decode cX5_readFrom 6 = .ok (.invokevirtual 25, 3) := by decide +kernel
theorem dX5_readFrom_9 : decode cX5_readFrom 9 = .ok (.iconst 0, 1) := by decide +kernel
theorem dX5_readFrom_10 : decode cX5_readFrom 10 = .ok (.istore_n 2, 1) := by decide +kernel
theorem dX5_readFrom_11 : decode cX5_readFrom 11 = .ok (.iload_n 2, 1) := by decide +kernel
theorem dX5_readFrom_12 : decode cX5_readFrom 12 = .ok (.bipush 20, 2) := by decide +kernel
theorem dX5_readFrom_14 : decode cX5_readFrom 14 = .ok (.if_icmp .ge 62, 3) := by decide +kernel
theorem dX5_readFrom_17 : decode cX5_readFrom 17 = .ok (.aload_n 0, 1) := by decide +kernel
theorem dX5_readFrom_18 : decode cX5_readFrom 18 = .ok (.aload_n 1, 1) := by decide +kernel
theorem dX5_readFrom_19 : decode cX5_readFrom 19 = .ok (.iload_n 2, 1) := by decide +kernel
theorem dX5_readFrom_20 : decode cX5_readFrom 20 = .ok (.iconst 5, 1) := by decide +kernel
theorem dX5_readFrom_21 : decode cX5_readFrom 21 = .ok (.imul, 1) := by decide +kernel
theorem dX5_readFrom_22 : decode cX5_readFrom 22 = .ok (.invokevirtual 30, 3) := by decide +kernel
theorem dX5_readFrom_25 : decode cX5_readFrom 25 = .ok (.ifCond .ne 8, 3) := by decide +kernel
theorem dX5_readFrom_28 : decode cX5_readFrom 28 = .ok (.aload_n 1, 1) := by decide +kernel
theorem dX5_readFrom_29 : decode cX5_readFrom 29 = .ok (.getfield 34, 3) := by decide +kernel
theorem dX5_readFrom_32 : decode cX5_readFrom 32 = .ok (.ireturn, 1) := by decide +kernel
theorem dX5_readFrom_33 : decode cX5_readFrom 33 = .ok (.aload_n 0, 1) := by decide +kernel
theorem dX5_readFrom_34 : decode cX5_readFrom 34 = .ok (.iload_n 2, 1) := by decide +kernel
theorem dX5_readFrom_35 : decode cX5_readFrom 35 = .ok (.iconst 1, 1) := by decide +kernel
theorem dX5_readFrom_36 : decode cX5_readFrom 36 = .ok (.iadd, 1) := by decide +kernel
theorem dX5_readFrom_37 : decode cX5_readFrom 37 = .ok (.putfield 21, 3) := by decide +kernel
theorem dX5_readFrom_40 : decode cX5_readFrom 40 = .ok (.aload_n 1, 1) := by decide +kernel
theorem dX5_readFrom_41 : decode cX5_readFrom 41 = .ok (.invokevirtual 37, 3) := by decide +kernel
theorem dX5_readFrom_44 : decode cX5_readFrom 44 = .ok (.aload_n 1, 1) := by decide +kernel
theorem dX5_readFrom_45 : decode cX5_readFrom 45 = .ok (.getfield 40, 3) := by decide +kernel
theorem dX5_readFrom_48 : decode cX5_readFrom 48 = .ok (.ifCond .ne 5, 3) := by decide +kernel
theorem dX5_readFrom_51 : decode cX5_readFrom 51 = .ok (.iconst (-1), 1) := by decide +kernel
theorem dX5_readFrom_52 : decode cX5_readFrom 52 = .ok (.ireturn, 1) := by decide +kernel
theorem dX5_readFrom_53 : decode cX5_readFrom 53 = .ok (.aload_n 1, 1) := by decide +kernel
theorem dX5_readFrom_54 : decode cX5_readFrom 54 = .ok (.getfield 40, 3) := by decide +kernel
theorem dX5_readFrom_57 : decode cX5_readFrom 57 = .ok (.iconst 1, 1) := by decide +kernel
theorem dX5_readFrom_58 : decode cX5_readFrom 58 = .ok (.if_icmp .eq 8, 3) := by decide +kernel
theorem dX5_readFrom_61 : decode cX5_readFrom 61 = .ok (.aload_n 1, 1) := by decide +kernel
theorem dX5_readFrom_62 : decode cX5_readFrom 62 = .ok (.getfield 34, 3) := by decide +kernel
theorem dX5_readFrom_65 : decode cX5_readFrom 65 = .ok (.ireturn, 1) := by decide +kernel
theorem dX5_readFrom_66 : decode cX5_readFrom 66 = .ok (.aload_n 1, 1) := by decide +kernel
theorem dX5_readFrom_67 : decode cX5_readFrom 67 = .ok (.invokevirtual 37, 3) := by decide +kernel
theorem dX5_readFrom_70 : decode cX5_readFrom 70 = .ok (.iinc 2 1, 3) := by decide +kernel
theorem dX5_readFrom_73 : decode cX5_readFrom 73 = .ok (.goto (-62), 3) := by decide +kernel
theorem dX5_readFrom_76 : decode cX5_readFrom 76 = .ok (.aload_n 1, 1) := by decide +kernel
theorem dX5_readFrom_77 : decode cX5_readFrom 77 = .ok (.getfield 34, 3) := by decide +kernel
theorem dX5_readFrom_80 : decode cX5_readFrom 80 = .ok (.ireturn, 1) := by decide +kernel
theorem dX5_readLine_0 : decode cX5_readLine 0 = .ok (.iconst 0, 1) := by decide +kernel
theorem dX5_readLine_1 : decode cX5_readLine 1 = .ok (.istore_n 3, 1) := by decide +kernel
theorem dX5_readLine_2 : decode cX5_readLine 2 = .ok (.iload_n 3, 1) := by decide +kernel
theorem dX5_readLine_3 : decode cX5_readLine 3 = .ok (.iconst 4, 1) := by decide +kernel
theorem dX5_readLine_4 : decode cX5_readLine 4 = .ok (.if_icmp .ge 66, 3) := by decide +kernel
theorem dX5_readLine_7 : decode cX5_readLine 7 = .ok (.aload_n 0, 1) := by decide +kernel
theorem dX5_readLine_8 : decode cX5_readLine 8 = .ok (.getfield 11, 3) := by decide +kernel
theorem dX5_readLine_11 : decode cX5_readLine 11 = .ok (.iload_n 2, 1) := by decide +kernel
theorem dX5_readLine_12 : decode cX5_readLine 12 = .ok (.iload_n 3, 1) := by decide +kernel
theorem dX5_readLine_13 : decode cX5_readLine 13 = .ok (.iadd, 1) := by decide +kernel
theorem dX5_readLine_14 : decode cX5_readLine 14 = .ok (.iconst (-1), 1) := by decide +kernel
theorem dX5_readLine_15 : decode cX5_readLine 15 = .ok (.iastore, 1) := by decide +kernel
theorem dX5_readLine_16 : decode cX5_readLine 16 = .ok (.aload_n 1, 1) := by decide +kernel
theorem dX5_readLine_17 : decode cX5_readLine 17 = .ok (.iload_n 3, 1) := by decide +kernel
theorem dX5_readLine_18 : decode cX5_readLine 18 = .ok (.invokestatic 43, 3) := by decide +kernel
theorem dX5_readLine_21 : decode cX5_readLine 21 = .ok (.invokevirtual 47, 3) := by decide +kernel
theorem dX5_readLine_24 : decode cX5_readLine 24 = .ok (.ifCond .eq 40, 3) := by decide +kernel
theorem dX5_readLine_27 : decode cX5_readLine 27 = .ok (.aload_n 1, 1) := by decide +kernel
theorem dX5_readLine_28 : decode cX5_readLine 28 = .ok (.invokevirtual 37, 3) := by decide +kernel
theorem dX5_readLine_31 : decode cX5_readLine 31 = .ok (.aload_n 1, 1) := by decide +kernel
theorem dX5_readLine_32 : decode cX5_readLine 32 = .ok (.iconst 0, 1) := by decide +kernel
theorem dX5_readLine_33 : decode cX5_readLine 33 = .ok (.iload_n 3, 1) := by decide +kernel
theorem dX5_readLine_34 : decode cX5_readLine 34 = .ok (.invokestatic 51, 3) := by decide +kernel
theorem dX5_readLine_37 : decode cX5_readLine 37 = .ok (.invokevirtual 55, 3) := by decide +kernel
theorem dX5_readLine_40 : decode cX5_readLine 40 = .ok (.istore 4, 2) := by decide +kernel
theorem dX5_readLine_42 : decode cX5_readLine 42 = .ok (.iload 4, 2) := by decide +kernel
theorem dX5_readLine_44 : decode cX5_readLine 44 = .ok (.iconst (-1), 1) := by decide +kernel
theorem dX5_readLine_45 : decode cX5_readLine 45 = .ok (.if_icmp .ne 5, 3) := by decide +kernel
theorem dX5_readLine_48 : decode cX5_readLine 48 = .ok (.iconst 0, 1) := by decide +kernel
theorem dX5_readLine_49 : decode cX5_readLine 49 = .ok (.ireturn, 1) := by decide +kernel
theorem dX5_readLine_50 : decode cX5_readLine 50 = .ok (.aload_n 0, 1) := by decide +kernel
theorem dX5_readLine_51 : decode cX5_readLine 51 = .ok (.getfield 11, 3) := by decide +kernel
theorem dX5_readLine_54 : decode cX5_readLine 54 = .ok (.iload_n 2, 1) := by decide +kernel
theorem dX5_readLine_55 : decode cX5_readLine 55 = .ok (.iload_n 3, 1) := by decide +kernel
theorem dX5_readLine_56 : decode cX5_readLine 56 = .ok (.iadd, 1) := by decide +kernel
theorem dX5_readLine_57 : decode cX5_readLine 57 = .ok (.iload 4, 2) := by decide +kernel
theorem dX5_readLine_59 : decode cX5_readLine 59 = .ok (.iastore, 1) := by decide +kernel
theorem dX5_readLine_60 : decode cX5_readLine 60 = .ok (.aload_n 1, 1) := by decide +kernel
theorem dX5_readLine_61 : decode cX5_readLine 61 = .ok (.invokevirtual 37, 3) := by decide +kernel
theorem dX5_readLine_64 : decode cX5_readLine 64 = .ok (.iinc 3 1, 3) := by decide +kernel
theorem dX5_readLine_67 : decode cX5_readLine 67 = .ok (.goto (-65), 3) := by decide +kernel
theorem dX5_readLine_70 : decode cX5_readLine 70 = .ok (.aload_n 0, 1) := by decide +kernel
theorem dX5_readLine_71 : decode cX5_readLine 71 = .ok (.getfield 11, 3) := by decide +kernel
theorem dX5_readLine_74 : decode cX5_readLine 74 = .ok (.iload_n 2, 1) := by decide +kernel
theorem dX5_readLine_75 : decode cX5_readLine 75 = .ok (.iconst 4, 1) := by decide +kernel
theorem dX5_readLine_76 : decode cX5_readLine 76 = .ok (.iadd, 1) := by decide +kernel
theorem dX5_readLine_77 : decode cX5_readLine 77 = .ok (.aload_n 1, 1) := by decide +kernel
theorem dX5_readLine_78 : decode cX5_readLine 78 = .ok (.invokestatic 59, 3) := by decide +kernel
theorem dX5_readLine_81 : decode cX5_readLine 81 = .ok (.iastore, 1) := by decide +kernel
theorem dX5_readLine_82 : decode cX5_readLine 82 = .ok (.aload_n 0, 1) := by decide +kernel
theorem dX5_readLine_83 : decode cX5_readLine 83 = .ok (.getfield 11, 3) := by decide +kernel
theorem dX5_readLine_86 : decode cX5_readLine 86 = .ok (.iload_n 2, 1) := by decide +kernel
theorem dX5_readLine_87 : decode cX5_readLine 87 = .ok (.iconst 4, 1) := by decide +kernel
theorem dX5_readLine_88 : decode cX5_readLine 88 = .ok (.iadd, 1) := by decide +kernel
theorem dX5_readLine_89 : decode cX5_readLine 89 = .ok (.iaload, 1) := by decide +kernel
theorem dX5_readLine_90 : decode cX5_readLine 90 = .ok (.iconst (-1), 1) := by decide +kernel
theorem dX5_readLine_91 : decode cX5_readLine 91 = .ok (.if_icmp .eq 7, 3) := by decide +kernel
theorem dX5_readLine_94 : decode cX5_readLine 94 = .ok (.iconst 1, 1) := by decide +kernel
theorem dX5_readLine_95 : decode cX5_readLine 95 = .ok (.goto 4, 3) := by decide +kernel
theorem dX5_readLine_98 : decode cX5_readLine 98 = .ok (.iconst 0, 1) := by decide +kernel
theorem dX5_readLine_99 : decode cX5_readLine 99 = .ok (.ireturn, 1) := by decide +kernel
theorem dX5_wordOf_0 : decode cX5_wordOf 0 = .ok (.iload_n 0, 1) := by decide +kernel
theorem dX5_wordOf_1 : decode cX5_wordOf 1 = .ok (.tableswitch 36 0 2 #[27, 30, 33], 27) := by decide +kernel
theorem dX5_wordOf_28 : decode cX5_wordOf 28 = .ok (.ldc 63, 2) := by decide +kernel
theorem dX5_wordOf_30 : decode cX5_wordOf 30 = .ok (.areturn, 1) := by decide +kernel
theorem dX5_wordOf_31 : decode cX5_wordOf 31 = .ok (.ldc 65, 2) := by decide +kernel
theorem dX5_wordOf_33 : decode cX5_wordOf 33 = .ok (.areturn, 1) := by decide +kernel
theorem dX5_wordOf_34 : decode cX5_wordOf 34 = .ok (.ldc 67, 2) := by decide +kernel
theorem dX5_wordOf_36 : decode cX5_wordOf 36 = .ok (.areturn, 1) := by decide +kernel
theorem dX5_wordOf_37 : decode cX5_wordOf 37 = .ok (.ldc 69, 2) := by decide +kernel
theorem dX5_wordOf_39 : decode cX5_wordOf 39 = .ok (.areturn, 1) := by decide +kernel
theorem dX8_digits_0 : decode cX8_digits 0 = .ok (.aload_n 0, 1) := by decide +kernel
theorem dX8_digits_1 : decode cX8_digits 1 = .ok (.getfield 45, 3) := by decide +kernel
theorem dX8_digits_4 : decode cX8_digits 4 = .ok (.iconst 3, 1) := by decide +kernel
theorem dX8_digits_5 : decode cX8_digits 5 = .ok (.if_icmp .ne 15, 3) := by decide +kernel
theorem dX8_digits_8 : decode cX8_digits 8 = .ok (.aload_n 0, 1) := by decide +kernel
theorem dX8_digits_9 : decode cX8_digits 9 = .ok (.getfield 36, 3) := by decide +kernel
theorem dX8_digits_12 : decode cX8_digits 12 = .ok (.aload_n 0, 1) := by decide +kernel
theorem dX8_digits_13 : decode cX8_digits 13 = .ok (.getfield 42, 3) := by decide +kernel
theorem dX8_digits_16 : decode cX8_digits 16 = .ok (.isub, 1) := by decide +kernel
theorem dX8_digits_17 : decode cX8_digits 17 = .ok (.goto 4, 3) := by decide +kernel
theorem dX8_digits_20 : decode cX8_digits 20 = .ok (.iconst 0, 1) := by decide +kernel
theorem dX8_digits_21 : decode cX8_digits 21 = .ok (.ireturn, 1) := by decide +kernel
theorem dX8_firstPart_0 : decode cX8_firstPart 0 = .ok (.aload_n 0, 1) := by decide +kernel
theorem dX8_firstPart_1 : decode cX8_firstPart 1 = .ok (.iconst 0, 1) := by decide +kernel
theorem dX8_firstPart_2 : decode cX8_firstPart 2 = .ok (.putfield 36, 3) := by decide +kernel
theorem dX8_firstPart_5 : decode cX8_firstPart 5 = .ok (.aload_n 0, 1) := by decide +kernel
theorem dX8_firstPart_6 : decode cX8_firstPart 6 = .ok (.invokevirtual 39, 3) := by decide +kernel
theorem dX8_firstPart_9 : decode cX8_firstPart 9 = .ok (.return_, 1) := by decide +kernel
theorem dX8_isWord_0 : decode cX8_isWord 0 = .ok (.aload_n 0, 1) := by decide +kernel
theorem dX8_isWord_1 : decode cX8_isWord 1 = .ok (.getfield 45, 3) := by decide +kernel
theorem dX8_isWord_4 : decode cX8_isWord 4 = .ok (.iconst 2, 1) := by decide +kernel
theorem dX8_isWord_5 : decode cX8_isWord 5 = .ok (.if_icmp .ne 19, 3) := by decide +kernel
theorem dX8_isWord_8 : decode cX8_isWord 8 = .ok (.aload_n 0, 1) := by decide +kernel
theorem dX8_isWord_9 : decode cX8_isWord 9 = .ok (.getfield 36, 3) := by decide +kernel
theorem dX8_isWord_12 : decode cX8_isWord 12 = .ok (.aload_n 0, 1) := by decide +kernel
theorem dX8_isWord_13 : decode cX8_isWord 13 = .ok (.getfield 42, 3) := by decide +kernel
theorem dX8_isWord_16 : decode cX8_isWord 16 = .ok (.isub, 1) := by decide +kernel
theorem dX8_isWord_17 : decode cX8_isWord 17 = .ok (.aload_n 1, 1) := by decide +kernel
theorem dX8_isWord_18 : decode cX8_isWord 18 = .ok (.invokevirtual 23, 3) := by decide +kernel
theorem dX8_isWord_21 : decode cX8_isWord 21 = .ok (.if_icmp .eq 5, 3) := by decide +kernel
theorem dX8_isWord_24 : decode cX8_isWord 24 = .ok (.iconst 0, 1) := by decide +kernel
theorem dX8_isWord_25 : decode cX8_isWord 25 = .ok (.ireturn, 1) := by decide +kernel
theorem dX8_isWord_26 : decode cX8_isWord 26 = .ok (.iconst 0, 1) := by decide +kernel
theorem dX8_isWord_27 : decode cX8_isWord 27 = .ok (.istore_n 2, 1) := by decide +kernel
theorem dX8_isWord_28 : decode cX8_isWord 28 = .ok (.iload_n 2, 1) := by decide +kernel
theorem dX8_isWord_29 : decode cX8_isWord 29 = .ok (.aload_n 1, 1) := by decide +kernel
theorem dX8_isWord_30 : decode cX8_isWord 30 = .ok (.invokevirtual 23, 3) := by decide +kernel
theorem dX8_isWord_33 : decode cX8_isWord 33 = .ok (.if_icmp .ge 30, 3) := by decide +kernel
theorem dX8_isWord_36 : decode cX8_isWord 36 = .ok (.aload_n 0, 1) := by decide +kernel
theorem dX8_isWord_37 : decode cX8_isWord 37 = .ok (.getfield 11, 3) := by decide +kernel
theorem dX8_isWord_40 : decode cX8_isWord 40 = .ok (.aload_n 0, 1) := by decide +kernel
theorem dX8_isWord_41 : decode cX8_isWord 41 = .ok (.getfield 42, 3) := by decide +kernel
theorem dX8_isWord_44 : decode cX8_isWord 44 = .ok (.iload_n 2, 1) := by decide +kernel
theorem dX8_isWord_45 : decode cX8_isWord 45 = .ok (.iadd, 1) := by decide +kernel
theorem dX8_isWord_46 : decode cX8_isWord 46 = .ok (.iaload, 1) := by decide +kernel
theorem dX8_isWord_47 : decode cX8_isWord 47 = .ok (.aload_n 1, 1) := by decide +kernel
theorem dX8_isWord_48 : decode cX8_isWord 48 = .ok (.iload_n 2, 1) := by decide +kernel
theorem dX8_isWord_49 : decode cX8_isWord 49 = .ok (.invokevirtual 28, 3) := by decide +kernel
theorem dX8_isWord_52 : decode cX8_isWord 52 = .ok (.if_icmp .eq 5, 3) := by decide +kernel
theorem dX8_isWord_55 : decode cX8_isWord 55 = .ok (.iconst 0, 1) := by decide +kernel
theorem dX8_isWord_56 : decode cX8_isWord 56 = .ok (.ireturn, 1) := by decide +kernel
theorem dX8_isWord_57 : decode cX8_isWord 57 = .ok (.iinc 2 1, 3) := by decide +kernel
theorem dX8_isWord_60 : decode cX8_isWord 60 = .ok (.goto (-32), 3) := by decide +kernel
theorem dX8_isWord_63 : decode cX8_isWord 63 = .ok (.iconst 1, 1) := by decide +kernel
theorem dX8_isWord_64 : decode cX8_isWord 64 = .ok (.ireturn, 1) := by decide +kernel
theorem dX8_nextPart_0 : decode cX8_nextPart 0 = .ok (.aload_n 0, 1) := by decide +kernel
theorem dX8_nextPart_1 : decode cX8_nextPart 1 = .ok (.getfield 36, 3) := by decide +kernel
theorem dX8_nextPart_4 : decode cX8_nextPart 4 = .ok (.istore_n 1, 1) := by decide +kernel
theorem dX8_nextPart_5 : decode cX8_nextPart 5 = .ok (.iload_n 1, 1) := by decide +kernel
theorem dX8_nextPart_6 : decode cX8_nextPart 6 = .ok (.aload_n 0, 1) := by decide +kernel
theorem dX8_nextPart_7 : decode cX8_nextPart 7 = .ok (.getfield 19, 3) := by decide +kernel
theorem dX8_nextPart_10 : decode cX8_nextPart 10 = .ok (.if_icmp .ge 20, 3) := by decide +kernel
theorem dX8_nextPart_13 : decode cX8_nextPart 13 = .ok (.aload_n 0, 1) := by decide +kernel
theorem dX8_nextPart_14 : decode cX8_nextPart 14 = .ok (.getfield 11, 3) := by decide +kernel
theorem dX8_nextPart_17 : decode cX8_nextPart 17 = .ok (.iload_n 1, 1) := by decide +kernel
theorem dX8_nextPart_18 : decode cX8_nextPart 18 = .ok (.iaload, 1) := by decide +kernel
theorem dX8_nextPart_19 : decode cX8_nextPart 19 = .ok (.bipush 32, 2) := by decide +kernel
theorem dX8_nextPart_21 : decode cX8_nextPart 21 = .ok (.if_icmp .ne 9, 3) := by decide +kernel
theorem dX8_nextPart_24 : decode cX8_nextPart 24 = .ok (.iinc 1 1, 3) := by decide +kernel
theorem dX8_nextPart_27 : decode cX8_nextPart 27 = .ok (.goto (-22), 3) := by decide +kernel
theorem dX8_nextPart_30 : decode cX8_nextPart 30 = .ok (.aload_n 0, 1) := by decide +kernel
theorem dX8_nextPart_31 : decode cX8_nextPart 31 = .ok (.iload_n 1, 1) := by decide +kernel
theorem dX8_nextPart_32 : decode cX8_nextPart 32 = .ok (.putfield 42, 3) := by decide +kernel
theorem dX8_nextPart_35 : decode cX8_nextPart 35 = .ok (.aload_n 0, 1) := by decide +kernel
theorem dX8_nextPart_36 : decode cX8_nextPart 36 = .ok (.iconst 0, 1) := by decide +kernel
theorem dX8_nextPart_37 : decode cX8_nextPart 37 = .ok (.putfield 45, 3) := by decide +kernel
theorem dX8_nextPart_40 : decode cX8_nextPart 40 = .ok (.iload_n 1, 1) := by decide +kernel
theorem dX8_nextPart_41 : decode cX8_nextPart 41 = .ok (.aload_n 0, 1) := by decide +kernel
theorem dX8_nextPart_42 : decode cX8_nextPart 42 = .ok (.getfield 19, 3) := by decide +kernel
theorem dX8_nextPart_45 : decode cX8_nextPart 45 = .ok (.if_icmp .ge 19, 3) := by decide +kernel
theorem dX8_nextPart_48 : decode cX8_nextPart 48 = .ok (.aload_n 0, 1) := by decide +kernel
theorem dX8_nextPart_49 : decode cX8_nextPart 49 = .ok (.aload_n 0, 1) := by decide +kernel
theorem dX8_nextPart_50 : decode cX8_nextPart 50 = .ok (.getfield 11, 3) := by decide +kernel
theorem dX8_nextPart_53 : decode cX8_nextPart 53 = .ok (.iload_n 1, 1) := by decide +kernel
theorem dX8_nextPart_54 : decode cX8_nextPart 54 = .ok (.iaload, 1) := by decide +kernel
theorem dX8_nextPart_55 : decode cX8_nextPart 55 = .ok (.invokestatic 48, 3) := by decide +kernel
theorem dX8_nextPart_58 : decode cX8_nextPart 58 = .ok (.putfield 45, 3) := by decide +kernel
theorem dX8_nextPart_61 : decode cX8_nextPart 61 = .ok (.iinc 1 1, 3) := by decide +kernel
theorem dX8_nextPart_64 : decode cX8_nextPart 64 = .ok (.aload_n 0, 1) := by decide +kernel
theorem dX8_nextPart_65 : decode cX8_nextPart 65 = .ok (.getfield 45, 3) := by decide +kernel
theorem dX8_nextPart_68 : decode cX8_nextPart 68 = .ok (.iconst 2, 1) := by decide +kernel
theorem dX8_nextPart_69 : decode cX8_nextPart 69 = .ok (.if_icmp .eq 11, 3) := by decide +kernel
theorem dX8_nextPart_72 : decode cX8_nextPart 72 = .ok (.aload_n 0, 1) := by decide +kernel
theorem dX8_nextPart_73 : decode cX8_nextPart 73 = .ok (.getfield 45, 3) := by decide +kernel
theorem dX8_nextPart_76 : decode cX8_nextPart 76 = .ok (.iconst 3, 1) := by decide +kernel
theorem dX8_nextPart_77 : decode cX8_nextPart 77 = .ok (.if_icmp .ne 7, 3) := by decide +kernel
theorem dX8_nextPart_80 : decode cX8_nextPart 80 = .ok (.iconst 1, 1) := by decide +kernel
theorem dX8_nextPart_81 : decode cX8_nextPart 81 = .ok (.goto 4, 3) := by decide +kernel
theorem dX8_nextPart_84 : decode cX8_nextPart 84 = .ok (.iconst 0, 1) := by decide +kernel
theorem dX8_nextPart_85 : decode cX8_nextPart 85 = .ok (.istore_n 2, 1) := by decide +kernel
theorem dX8_nextPart_86 : decode cX8_nextPart 86 = .ok (.iload_n 2, 1) := by decide +kernel
theorem dX8_nextPart_87 : decode cX8_nextPart 87 = .ok (.ifCond .eq 33, 3) := by decide +kernel
theorem dX8_nextPart_90 : decode cX8_nextPart 90 = .ok (.iload_n 1, 1) := by decide +kernel
theorem dX8_nextPart_91 : decode cX8_nextPart 91 = .ok (.aload_n 0, 1) := by decide +kernel
theorem dX8_nextPart_92 : decode cX8_nextPart 92 = .ok (.getfield 19, 3) := by decide +kernel
theorem dX8_nextPart_95 : decode cX8_nextPart 95 = .ok (.if_icmp .ge 25, 3) := by decide +kernel
theorem dX8_nextPart_98 : decode cX8_nextPart 98 = .ok (.aload_n 0, 1) := by decide +kernel
theorem dX8_nextPart_99 : decode cX8_nextPart 99 = .ok (.getfield 11, 3) := by decide +kernel
theorem dX8_nextPart_102 : decode cX8_nextPart 102 = .ok (.iload_n 1, 1) := by decide +kernel
theorem dX8_nextPart_103 : decode cX8_nextPart 103 = .ok (.iaload, 1) := by decide +kernel
theorem dX8_nextPart_104 : decode cX8_nextPart 104 = .ok (.invokestatic 48, 3) := by decide +kernel
theorem dX8_nextPart_107 : decode cX8_nextPart 107 = .ok (.aload_n 0, 1) := by decide +kernel
theorem dX8_nextPart_108 : decode cX8_nextPart 108 = .ok (.getfield 45, 3) := by decide +kernel
theorem dX8_nextPart_111 : decode cX8_nextPart 111 = .ok (.if_icmp .ne 9, 3) := by decide +kernel
theorem dX8_nextPart_114 : decode cX8_nextPart 114 = .ok (.iinc 1 1, 3) := by decide +kernel
theorem dX8_nextPart_117 : decode cX8_nextPart 117 = .ok (.goto (-31), 3) := by decide +kernel
theorem dX8_nextPart_120 : decode cX8_nextPart 120 = .ok (.aload_n 0, 1) := by decide +kernel
theorem dX8_nextPart_121 : decode cX8_nextPart 121 = .ok (.iload_n 1, 1) := by decide +kernel
theorem dX8_nextPart_122 : decode cX8_nextPart 122 = .ok (.putfield 36, 3) := by decide +kernel
theorem dX8_nextPart_125 : decode cX8_nextPart 125 = .ok (.return_, 1) := by decide +kernel
theorem dX8_number_0 : decode cX8_number 0 = .ok (.aload_n 0, 1) := by decide +kernel
theorem dX8_number_1 : decode cX8_number 1 = .ok (.invokevirtual 52, 3) := by decide +kernel
theorem dX8_number_4 : decode cX8_number 4 = .ok (.iconst 1, 1) := by decide +kernel
theorem dX8_number_5 : decode cX8_number 5 = .ok (.if_icmp .ne 11, 3) := by decide +kernel
theorem dX8_number_8 : decode cX8_number 8 = .ok (.aload_n 0, 1) := by decide +kernel
theorem dX8_number_9 : decode cX8_number 9 = .ok (.iconst 0, 1) := by decide +kernel
theorem dX8_number_10 : decode cX8_number 10 = .ok (.invokevirtual 55, 3) := by decide +kernel
theorem dX8_number_13 : decode cX8_number 13 = .ok (.goto 4, 3) := by decide +kernel
theorem dX8_number_16 : decode cX8_number 16 = .ok (.iconst (-1), 1) := by decide +kernel
theorem dX8_number_17 : decode cX8_number 17 = .ok (.istore_n 3, 1) := by decide +kernel
theorem dX8_number_18 : decode cX8_number 18 = .ok (.iload_n 3, 1) := by decide +kernel
theorem dX8_number_19 : decode cX8_number 19 = .ok (.iload_n 1, 1) := by decide +kernel
theorem dX8_number_20 : decode cX8_number 20 = .ok (.if_icmp .lt 8, 3) := by decide +kernel
theorem dX8_number_23 : decode cX8_number 23 = .ok (.iload_n 3, 1) := by decide +kernel
theorem dX8_number_24 : decode cX8_number 24 = .ok (.iload_n 2, 1) := by decide +kernel
theorem dX8_number_25 : decode cX8_number 25 = .ok (.if_icmp .le 7, 3) := by decide +kernel
theorem dX8_number_28 : decode cX8_number 28 = .ok (.iconst (-1), 1) := by decide +kernel
theorem dX8_number_29 : decode cX8_number 29 = .ok (.goto 4, 3) := by decide +kernel
theorem dX8_number_32 : decode cX8_number 32 = .ok (.iload_n 3, 1) := by decide +kernel
theorem dX8_number_33 : decode cX8_number 33 = .ok (.ireturn, 1) := by decide +kernel
end
section
/-! small facts -/
theorem i32_lt {a b : Int32} : a < b ↔ a.toInt < b.toInt := Int32.lt_iff_toInt_lt
theorem i32_le {a b : Int32} : a ≤ b ↔ a.toInt ≤ b.toInt := Int32.le_iff_toInt_le
theorem cp_lt_f_ge {x y : Int32} {G : Prop} (h : ¬ x < y) (c : ¬ y ≤ x) : G := absurd (i32_le.mpr (by rw [i32_lt] at h; omega)) c
theorem cp_lt_t_ge {x y : Int32} {G : Prop} (h : x < y) (c : y ≤ x) : G := by rw [i32_lt] at h; rw [i32_le] at c; omega
theorem cp_le_f_gt {x y : Int32} {G : Prop} (h : ¬ x ≤ y) (c : ¬ y < x) : G := by rw [i32_le] at h; rw [i32_lt] at c; omega
theorem cp_le_t_gt {x y : Int32} {G : Prop} (h : x ≤ y) (c : y < x) : G := by rw [i32_le] at h; rw [i32_lt] at c; omega
theorem cp_gt_f_le {x y : Int32} {G : Prop} (h : ¬ y < x) (c : ¬ x ≤ y) : G := by rw [i32_lt] at h; rw [i32_le] at c; omega
theorem cp_gt_t_le {x y : Int32} {G : Prop} (h : y < x) (c : x ≤ y) : G := by rw [i32_lt] at h; rw [i32_le] at c; omega
theorem cp_eq_f_ne {x y : Int32} {G : Prop} (h : ¬ x = y) (c : x = y) : G := absurd c h
theorem cp_ne_t_eq {x y : Int32} {G : Prop} (h : ¬ x = y) (c : x = y) : G := absurd c h
theorem cp_ne_f_eq {x y : Int32} {G : Prop} (h : x = y) (c : ¬ x = y) : G := absurd h c
theorem cp_eq_t_ne {x y : Int32} {G : Prop} (h : x = y) (c : ¬ x = y) : G := absurd h c
theorem tb_out {x : Int32} {lo hi : Int} (h1 : -2147483648 ≤ lo) (h2 : hi ≤ 2147483647) (h : ∀ k : Int, lo ≤ k → k ≤ hi → x ≠ Int32.ofInt k) : x.toInt < lo ∨ hi < x.toInt := by
  by_cases a : x.toInt < lo
  · exact Or.inl a
  · by_cases b : hi < x.toInt
    · exact Or.inr b
    · exact absurd (by rw [Int32.ofInt_toInt]) (h x.toInt (by omega) (by omega))
theorem ne_ti {x y : Int32} {k : Int} (h : ¬ x = y) (hk : y.toInt = k) : ¬ x.toInt = k := fun e => h (Int32.toInt_inj.mp (e.trans hk.symm))
theorem in_of2 {x k : Int32} {n : Nat} (hk : k.toInt = n) (h0 : ¬ x < 0) (h1 : x < k) : vp_in x n := by
  rw [vp_in_iff]
  rw [i32_lt] at h0 h1
  have e : (0 : Int32).toInt = 0 := by decide
  omega

theorem lt_nle {x y : Int32} (h : x < y) : ¬ y ≤ x := fun c => by rw [i32_lt] at h; rw [i32_le] at c; omega
theorem ne_ti2 {x y : Int32} {k : Int} (h : ¬ x = y) (hk : y.toInt = k) : ¬ k = x.toInt := fun e => ne_ti h hk e.symm
def grB (form n : Int32) : Int32 := if form = 0 then (n - 1) / 3 else (n - 1) / 4
def endV (n : Int32) : Int32 := if n < 0 then 0 else if n ≤ 0 then 1 else 0
def ruleV (w : Int32) : Int32 := if w = 10 then 0 else (-1000000)
def grV (form n : Int32) : Int32 := if form < 0 then (-1) else if 1 < form then (-1) else if n < 1 then (-1) else if n ≤ 100 then grB form n else (-1)
def statV (w : Int32) : Int32 := if w < 0 then (-1) else if w < 5 then 0 else (-1)
def cntV (w : Int32) : Int32 := if w = 0 then 0 else if w = 1 then 0 else if w = 2 then 0 else (-1)
def fltV (w : Int32) : Int32 := if w = 0 then 0 else if w = 1 then 0 else (-2)
def isInV (v a b : Int64) : Int32 := if lg_cmp v a < 0 then 0 else if 0 < lg_cmp v b then 0 else 1
end
section
set_option maxHeartbeats 4000000 in
set_option maxRecDepth 100000 in
theorem k_X10_roundsLeft (l : Launch) (g : GG) (L : List Nat) (f : HP) (sz : Nat) (x t dr co ot dp pn ch fr nw kp tr ac se tx rf : Nat) (hm_x : x ∈ L) (hf_x : f x = .inr (9, [.ref t, .ref dr, .ref co, .ref ot, .ref dp, .ref pn, .ref ch, .ref fr, .ref nw, .ref kp, .ref tr, .ref ac, .ref se, .ref tx, .ref rf, .int 0, .int 0, .long 0])) : MtI l g yX10_roundsLeft cX10_roundsLeft 1 (some .int) ({ frames := 0, cells := 0, slots := 0, locals := 0 }) [.ref x] L f sz (fun r u => u.1 = L ∧ u.2 = f ∧ r = 0) := by
  refine MtI.of (by decide +kernel) (Nat.le_of_ble_eq_true rfl) ?_
  intro p e s m below meth c A hEn hP hD hS ls hl
  obtain ⟨hx, hb, hr, hml, hown, hlocks, hts, hG, hA, hE, hnm⟩ := hEn
  have hown : s.vm.findClass "RulerWord" = some m.cls := hown
  have hl : lv_has ls 1 [(0, .ref x)] := hl
  refine lv_aload_n hx hb dX10_roundsLeft_0 rfl (lv_at hl 0 rfl) ?_
  refine pl_get (v := .int 0) hx hb hts (fun w h => mT (inX10 w h)) hown hG.1 hP hm_x hf_x rfl 15 (by decide) (hts _ (mT wg_490)) (fun _ h => h) rfl dX10_roundsLeft_1 ?_
  refine lv_if_eq (tgt := 25) hx hb dX10_roundsLeft_4 (by decide) (fun c1 => ?_) (fun c1 => absurd (by decide) c1)
  refine lv_iconst (v := 0) hx hb dX10_roundsLeft_25 (by decide) ?_
  exact ret_i (ty := .int) hx hb hr hlocks (rfl) hP hD hS (Nat.le_of_ble_eq_true rfl) (Nat.le_of_ble_eq_true rfl) (⟨rfl, rfl, rfl⟩) dX10_roundsLeft_26

set_option maxHeartbeats 4000000 in
set_option maxRecDepth 100000 in
theorem k_X10_isPeer (l : Launch) (g : GG) (L : List Nat) (f : HP) (sz : Nat) (x t dr co ot dp pn ch fr nw kp tr ac se tx rf : Nat) (i : Int32) (hm_x : x ∈ L) (hf_x : f x = .inr (9, [.ref t, .ref dr, .ref co, .ref ot, .ref dp, .ref pn, .ref ch, .ref fr, .ref nw, .ref kp, .ref tr, .ref ac, .ref se, .ref tx, .ref rf, .int 0, .int 0, .long 0])) : MtI l g yX10_isPeer cX10_isPeer 2 (some .boolean) ({ frames := 0, cells := 0, slots := 0, locals := 0 }) [.ref x, .int i] L f sz (fun r u => u.1 = L ∧ u.2 = f ∧ r = 0) := by
  refine MtI.of (by decide +kernel) (Nat.le_of_ble_eq_true rfl) ?_
  intro p e s m below meth c A hEn hP hD hS ls hl
  obtain ⟨hx, hb, hr, hml, hown, hlocks, hts, hG, hA, hE, hnm⟩ := hEn
  have hown : s.vm.findClass "RulerWord" = some m.cls := hown
  have hl : lv_has ls 2 [(0, .ref x), (1, .int i)] := hl
  refine lv_aload_n hx hb dX10_isPeer_0 rfl (lv_at hl 0 rfl) ?_
  refine pl_get (v := .int 0) hx hb hts (fun w h => mT (inX10 w h)) hown hG.1 hP hm_x hf_x rfl 15 (by decide) (hts _ (mT wg_490)) (fun _ h => h) rfl dX10_isPeer_1 ?_
  refine lv_if_eq (tgt := 26) hx hb dX10_isPeer_4 (by decide) (fun c1 => ?_) (fun c1 => absurd (by decide) c1)
  refine lv_iconst (v := 0) hx hb dX10_isPeer_26 (by decide) ?_
  exact ret_i (ty := .boolean) hx hb hr hlocks (rfl) hP hD hS (Nat.le_of_ble_eq_true rfl) (Nat.le_of_ble_eq_true rfl) (⟨rfl, rfl, rfl⟩) dX10_isPeer_27

set_option maxHeartbeats 4000000 in
set_option maxRecDepth 100000 in
theorem k_X10_phasesOver (l : Launch) (g : GG) (L : List Nat) (f : HP) (sz : Nat) (x t dr co ot dp pn ch fr nw kp tr ac se tx rf : Nat) (hm_x : x ∈ L) (hf_x : f x = .inr (9, [.ref t, .ref dr, .ref co, .ref ot, .ref dp, .ref pn, .ref ch, .ref fr, .ref nw, .ref kp, .ref tr, .ref ac, .ref se, .ref tx, .ref rf, .int 0, .int 0, .long 0])) : MtI l g yX10_phasesOver cX10_phasesOver 1 (some .int) ({ frames := 0, cells := 0, slots := 0, locals := 0 }) [.ref x] L f sz (fun r u => u.1 = L ∧ u.2 = f ∧ r = 0) := by
  refine MtI.of (by decide +kernel) (Nat.le_of_ble_eq_true rfl) ?_
  intro p e s m below meth c A hEn hP hD hS ls hl
  obtain ⟨hx, hb, hr, hml, hown, hlocks, hts, hG, hA, hE, hnm⟩ := hEn
  have hown : s.vm.findClass "RulerWord" = some m.cls := hown
  have hl : lv_has ls 1 [(0, .ref x)] := hl
  refine lv_aload_n hx hb dX10_phasesOver_0 rfl (lv_at hl 0 rfl) ?_
  refine pl_get (v := .int 0) hx hb hts (fun w h => mT (inX10 w h)) hown hG.1 hP hm_x hf_x rfl 15 (by decide) (hts _ (mT wg_490)) (fun _ h => h) rfl dX10_phasesOver_1 ?_
  refine lv_if_eq (tgt := 29) hx hb dX10_phasesOver_4 (by decide) (fun c1 => ?_) (fun c1 => absurd (by decide) c1)
  refine lv_iconst (v := 0) hx hb dX10_phasesOver_29 (by decide) ?_
  exact ret_i (ty := .int) hx hb hr hlocks (rfl) hP hD hS (Nat.le_of_ble_eq_true rfl) (Nat.le_of_ble_eq_true rfl) (⟨rfl, rfl, rfl⟩) dX10_phasesOver_30

set_option maxHeartbeats 4000000 in
set_option maxRecDepth 100000 in
theorem k_X10_isOver (l : Launch) (g : GG) (L : List Nat) (f : HP) (sz : Nat) (x t dr co ot dp pn ch fr nw kp tr ac se tx rf : Nat) (ph : Int32) (hm_x : x ∈ L) (hf_x : f x = .inr (9, [.ref t, .ref dr, .ref co, .ref ot, .ref dp, .ref pn, .ref ch, .ref fr, .ref nw, .ref kp, .ref tr, .ref ac, .ref se, .ref tx, .ref rf, .int 0, .int 0, .long 0])) : MtI l g yX10_isOver cX10_isOver 2 (some .boolean) ({ frames := 1, cells := 0, slots := 0, locals := 20 }) [.ref x, .int ph] L f sz (fun r u => u.1 = L ∧ u.2 = f ∧ r = 0) := by
  refine MtI.of (by decide +kernel) (Nat.le_of_ble_eq_true rfl) ?_
  intro p e s m below meth c A hEn hP hD hS ls hl
  obtain ⟨hx, hb, hr, hml, hown, hlocks, hts, hG, hA, hE, hnm⟩ := hEn
  have hown : s.vm.findClass "RulerWord" = some m.cls := hown
  have hl : lv_has ls 2 [(0, .ref x), (1, .int ph)] := hl
  refine lv_iload_n hx hb dX10_isOver_0 rfl (lv_at hl 1 rfl) ?_
  refine lv_if_lt (tgt := 16) hx hb dX10_isOver_1 (by decide) (fun c1 => ?_) (fun c1 => ?_)
  ·
    refine lv_iconst (v := 0) hx hb dX10_isOver_16 (by decide) ?_
    exact ret_i (ty := .boolean) hx hb hr hlocks (rfl) hP hD hS (Nat.le_of_ble_eq_true rfl) (Nat.le_of_ble_eq_true rfl) (⟨rfl, rfl, rfl⟩) dX10_isOver_17
  ·
    refine lv_iload_n hx hb dX10_isOver_4 rfl (lv_at hl 1 rfl) ?_
    refine lv_aload_n hx hb dX10_isOver_5 rfl (lv_at hl 0 rfl) ?_
    refine call_i (run_V (rm := { frames := 0, cells := 0, slots := 0, locals := 0 }) hx hb hml hown hts (k_X10_phasesOver l g _ _ _ x t dr co ot dp pn ch fr nw kp tr ac se tx rf hm_x hf_x) cV_X10_phasesOver wg_956 ⟨Nat.le_of_ble_eq_true rfl, Nat.le_of_ble_eq_true rfl⟩ hG hE hA hP hD hS hm_x hf_x rfl rfl hl.1 (As := []) (rest := [.int ph]) rfl (Nat.le_of_ble_eq_true rfl) dX10_isOver_6 ⟨Nat.le_of_ble_eq_true rfl, Nat.le_of_ble_eq_true rfl⟩) hA hD hS (fun r2 L3 f4 H locs hp5 hP hD hS => ?_)
    obtain ⟨er6a, er6b, er6⟩ : L3 = _ ∧ f4 = _ ∧ r2 = 0 := hp5
    rw [er6a, er6b] at hP hD
    subst er6
    refine lv_icmp_ge (tgt := 16) hx hb dX10_isOver_9 (by decide) (fun c7 => ?_) (fun c7 => cp_lt_f_ge c1 c7)
    refine lv_iconst (v := 0) hx hb dX10_isOver_16 (by decide) ?_
    exact ret_i (ty := .boolean) hx hb hr hlocks (rfl) hP hD hS (Nat.le_of_ble_eq_true rfl) (Nat.le_of_ble_eq_true rfl) (⟨rfl, rfl, rfl⟩) dX10_isOver_17

set_option maxHeartbeats 4000000 in
set_option maxRecDepth 100000 in
theorem k_X10_isAsked (l : Launch) (g : GG) (L : List Nat) (f : HP) (sz : Nat) (x t dr co ot dp pn ch fr nw kp tr ac se tx rf : Nat) (fa : Int32) (hm_x : x ∈ L) (hf_x : f x = .inr (9, [.ref t, .ref dr, .ref co, .ref ot, .ref dp, .ref pn, .ref ch, .ref fr, .ref nw, .ref kp, .ref tr, .ref ac, .ref se, .ref tx, .ref rf, .int 0, .int 0, .long 0])) : MtI l g yX10_isAsked cX10_isAsked 2 (some .boolean) ({ frames := 0, cells := 0, slots := 0, locals := 0 }) [.ref x, .int fa] L f sz (fun r u => u.1 = L ∧ u.2 = f ∧ r = 0) := by
  refine MtI.of (by decide +kernel) (Nat.le_of_ble_eq_true rfl) ?_
  intro p e s m below meth c A hEn hP hD hS ls hl
  obtain ⟨hx, hb, hr, hml, hown, hlocks, hts, hG, hA, hE, hnm⟩ := hEn
  have hown : s.vm.findClass "RulerWord" = some m.cls := hown
  have hl : lv_has ls 2 [(0, .ref x), (1, .int fa)] := hl
  refine lv_aload_n hx hb dX10_isAsked_0 rfl (lv_at hl 0 rfl) ?_
  refine pl_get (v := .int 0) hx hb hts (fun w h => mT (inX10 w h)) hown hG.1 hP hm_x hf_x rfl 15 (by decide) (hts _ (mT wg_490)) (fun _ h => h) rfl dX10_isAsked_1 ?_
  refine lv_if_eq (tgt := 21) hx hb dX10_isAsked_4 (by decide) (fun c1 => ?_) (fun c1 => absurd (by decide) c1)
  refine lv_iconst (v := 0) hx hb dX10_isAsked_21 (by decide) ?_
  exact ret_i (ty := .boolean) hx hb hr hlocks (rfl) hP hD hS (Nat.le_of_ble_eq_true rfl) (Nat.le_of_ble_eq_true rfl) (⟨rfl, rfl, rfl⟩) dX10_isAsked_22

set_option maxHeartbeats 4000000 in
set_option maxRecDepth 100000 in
theorem k_X10_whyNotSaid (l : Launch) (g : GG) (L : List Nat) (f : HP) (sz : Nat) (x t dr co ot dp pn ch fr nw kp tr ac se tx rf : Nat) (a1 : Int32) (a2 : Int32) (a3 : Int32) (a4 : Int32) (a5 : Int32) (hm_x : x ∈ L) (hf_x : f x = .inr (9, [.ref t, .ref dr, .ref co, .ref ot, .ref dp, .ref pn, .ref ch, .ref fr, .ref nw, .ref kp, .ref tr, .ref ac, .ref se, .ref tx, .ref rf, .int 0, .int 0, .long 0])) : MtI l g yX10_whyNotSaid cX10_whyNotSaid 6 (some .int) ({ frames := 0, cells := 0, slots := 0, locals := 0 }) [.ref x, .int a1, .int a2, .int a3, .int a4, .int a5] L f sz (fun r u => u.1 = L ∧ u.2 = f ∧ r = 0) := by
  refine MtI.of (by decide +kernel) (Nat.le_of_ble_eq_true rfl) ?_
  intro p e s m below meth c A hEn hP hD hS ls hl
  obtain ⟨hx, hb, hr, hml, hown, hlocks, hts, hG, hA, hE, hnm⟩ := hEn
  have hown : s.vm.findClass "RulerWord" = some m.cls := hown
  have hl : lv_has ls 6 [(0, .ref x), (1, .int a1), (2, .int a2), (3, .int a3), (4, .int a4), (5, .int a5)] := hl
  refine lv_aload_n hx hb dX10_whyNotSaid_0 rfl (lv_at hl 0 rfl) ?_
  refine pl_get (v := .int 0) hx hb hts (fun w h => mT (inX10 w h)) hown hG.1 hP hm_x hf_x rfl 15 (by decide) (hts _ (mT wg_490)) (fun _ h => h) rfl dX10_whyNotSaid_1 ?_
  refine lv_if_ne (tgt := 9) hx hb dX10_whyNotSaid_4 (by decide) (fun c1 => absurd rfl c1) (fun c1 => ?_)
  refine lv_iconst (v := 0) hx hb dX10_whyNotSaid_7 (by decide) ?_
  exact ret_i (ty := .int) hx hb hr hlocks (rfl) hP hD hS (Nat.le_of_ble_eq_true rfl) (Nat.le_of_ble_eq_true rfl) (⟨rfl, rfl, rfl⟩) dX10_whyNotSaid_8

set_option maxHeartbeats 4000000 in
set_option maxRecDepth 100000 in
theorem k_X10_whyNotTold (l : Launch) (g : GG) (L : List Nat) (f : HP) (sz : Nat) (x t dr co ot dp pn ch fr nw kp tr ac se tx rf : Nat) (a : Int32) (b : Int32) (hm_x : x ∈ L) (hf_x : f x = .inr (9, [.ref t, .ref dr, .ref co, .ref ot, .ref dp, .ref pn, .ref ch, .ref fr, .ref nw, .ref kp, .ref tr, .ref ac, .ref se, .ref tx, .ref rf, .int 0, .int 0, .long 0])) : MtI l g yX10_whyNotTold cX10_whyNotTold 3 (some .int) ({ frames := 0, cells := 0, slots := 0, locals := 0 }) [.ref x, .int a, .int b] L f sz (fun r u => u.1 = L ∧ u.2 = f ∧ r = 0) := by
  refine MtI.of (by decide +kernel) (Nat.le_of_ble_eq_true rfl) ?_
  intro p e s m below meth c A hEn hP hD hS ls hl
  obtain ⟨hx, hb, hr, hml, hown, hlocks, hts, hG, hA, hE, hnm⟩ := hEn
  have hown : s.vm.findClass "RulerWord" = some m.cls := hown
  have hl : lv_has ls 3 [(0, .ref x), (1, .int a), (2, .int b)] := hl
  refine lv_aload_n hx hb dX10_whyNotTold_0 rfl (lv_at hl 0 rfl) ?_
  refine pl_get (v := .int 0) hx hb hts (fun w h => mT (inX10 w h)) hown hG.1 hP hm_x hf_x rfl 15 (by decide) (hts _ (mT wg_490)) (fun _ h => h) rfl dX10_whyNotTold_1 ?_
  refine lv_if_ne (tgt := 9) hx hb dX10_whyNotTold_4 (by decide) (fun c1 => absurd rfl c1) (fun c1 => ?_)
  refine lv_iconst (v := 0) hx hb dX10_whyNotTold_7 (by decide) ?_
  exact ret_i (ty := .int) hx hb hr hlocks (rfl) hP hD hS (Nat.le_of_ble_eq_true rfl) (Nat.le_of_ble_eq_true rfl) (⟨rfl, rfl, rfl⟩) dX10_whyNotTold_8

set_option maxHeartbeats 4000000 in
set_option maxRecDepth 100000 in
theorem k_X10_refuse (l : Launch) (g : GG) (L : List Nat) (f : HP) (sz : Nat) (x t dr co ot dp pn ch fr nw kp tr ac se tx rf : Nat) (hm_x : x ∈ L) (hf_x : f x = .inr (9, [.ref t, .ref dr, .ref co, .ref ot, .ref dp, .ref pn, .ref ch, .ref fr, .ref nw, .ref kp, .ref tr, .ref ac, .ref se, .ref tx, .ref rf, .int 0, .int 0, .long 0])) (hm_rf : rf ∈ L) (hf_rf : f rf = .inl (g.2.1 0, 5, .inl (fun _ => 0))) : MtI l g yX10_refuse cX10_refuse 2 (some .int) ({ frames := 0, cells := 0, slots := 0, locals := 0 }) [.ref x, .int 0] L f sz (fun r _ => r = (-1)) := by
  refine MtI.of (by decide +kernel) (Nat.le_of_ble_eq_true rfl) ?_
  intro p e s m below meth c A hEn hP hD hS ls hl
  obtain ⟨hx, hb, hr, hml, hown, hlocks, hts, hG, hA, hE, hnm⟩ := hEn
  have hown : s.vm.findClass "RulerWord" = some m.cls := hown
  have hl : lv_has ls 2 [(0, .ref x), (1, .int 0)] := hl
  refine lv_aload_n hx hb dX10_refuse_0 rfl (lv_at hl 0 rfl) ?_
  refine pl_get (v := .ref rf) hx hb hts (fun w h => mT (inX10 w h)) hown hG.1 hP hm_x hf_x rfl 14 (by decide) (hts _ (mT wg_489)) (fun _ h => h) rfl dX10_refuse_1 ?_
  refine lv_iload_n hx hb dX10_refuse_4 rfl (lv_at hl 1 rfl) ?_
  refine lv_dup2_11 hx hb dX10_refuse_5 rfl rfl ?_
  refine pl_iald hx hb hG.1 hP hm_rf 0 hf_rf rfl (by unfold vp_in; decide) dX10_refuse_6 ?_
  refine lv_topi (fun x1 ex1 => ?_)
  obtain rfl : x1 = 0 := ex1.trans (rfl)
  refine lv_iconst (v := 1) hx hb dX10_refuse_7 (by decide) ?_
  refine lv_iadd hx hb dX10_refuse_8 ?_
  refine lv_topi (fun x2 ex2 => ?_)
  obtain rfl : x2 = 1 := ex2.trans (by decide)
  refine pl_iast hx hb hG.1 hP hD hS hm_rf 0 hf_rf rfl (by unfold vp_in; decide) dX10_refuse_9 (fun H locs f3 hf5 ho4 hP hD hS => ?_)
  obtain ⟨r6, er6⟩ : ∃ r : Nat → Int32, r = upd (fun _ => 0) (0 : Int32).toNatClampNeg (1) := ⟨_, rfl⟩
  rw [← er6] at hf5
  have hf7 := (ho4 x (kno hf_x hf_rf)).trans hf_x
  refine lv_iconst (v := (-1)) hx hb dX10_refuse_10 (by decide) ?_
  exact ret_i (ty := .int) hx hb hr hlocks (rfl) hP hD hS (Nat.le_of_ble_eq_true rfl) (Nat.le_of_ble_eq_true rfl) (rfl) dX10_refuse_11

set_option maxHeartbeats 4000000 in
set_option maxRecDepth 100000 in
theorem k_X2_everybody (l : Launch) (g : GG) (L : List Nat) (f : HP) (sz : Nat) (co : Nat) (hm_co : co ∈ L) (hf_co : f co = .inr (2, [.int 0, .int 0, .int 0, .int 0, .int 0, .int 0, .int 0, .int 0])) : MtI l g yX2_everybody cX2_everybody 1 (some .int) ({ frames := 0, cells := 0, slots := 0, locals := 0 }) [.ref co] L f sz (fun r u => u.1 = L ∧ u.2 = f ∧ r = 0) := by
  refine MtI.of (by decide +kernel) (Nat.le_of_ble_eq_true rfl) ?_
  intro p e s m below meth c A hEn hP hD hS ls hl
  obtain ⟨hx, hb, hr, hml, hown, hlocks, hts, hG, hA, hE, hnm⟩ := hEn
  have hown : s.vm.findClass "RulerWord$Council" = some m.cls := hown
  have hl : lv_has ls 1 [(0, .ref co)] := hl
  refine lv_iconst (v := 1) hx hb dX2_everybody_0 (by decide) ?_
  refine lv_aload_n hx hb dX2_everybody_1 rfl (lv_at hl 0 rfl) ?_
  refine pl_get (v := .int 0) hx hb hts (fun w h => mT (inX2 w h)) hown hG.1 hP hm_co hf_co rfl 1 (by decide) (hts _ (mT wg_228)) (fun _ h => h) rfl dX2_everybody_2 ?_
  refine lv_ishl hx hb dX2_everybody_5 ?_
  refine lv_topi (fun x1 ex1 => ?_)
  obtain rfl : x1 = 1 := ex1.trans (by decide)
  refine lv_iconst (v := 1) hx hb dX2_everybody_6 (by decide) ?_
  refine lv_isub hx hb dX2_everybody_7 ?_
  refine lv_topi (fun x2 ex2 => ?_)
  obtain rfl : x2 = 0 := ex2.trans (by decide)
  exact ret_i (ty := .int) hx hb hr hlocks (rfl) hP hD hS (Nat.le_of_ble_eq_true rfl) (Nat.le_of_ble_eq_true rfl) (⟨rfl, rfl, rfl⟩) dX2_everybody_8

set_option maxHeartbeats 4000000 in
set_option maxRecDepth 100000 in
theorem k_X2_rounds (l : Launch) (g : GG) (L : List Nat) (f : HP) (sz : Nat) (co : Nat) (hm_co : co ∈ L) (hf_co : f co = .inr (2, [.int 0, .int 0, .int 0, .int 0, .int 0, .int 0, .int 0, .int 0])) : MtI l g yX2_rounds cX2_rounds 1 (some .int) ({ frames := 0, cells := 0, slots := 0, locals := 0 }) [.ref co] L f sz (fun r u => u.1 = L ∧ u.2 = f ∧ r = 3) := by
  refine MtI.of (by decide +kernel) (Nat.le_of_ble_eq_true rfl) ?_
  intro p e s m below meth c A hEn hP hD hS ls hl
  obtain ⟨hx, hb, hr, hml, hown, hlocks, hts, hG, hA, hE, hnm⟩ := hEn
  have hown : s.vm.findClass "RulerWord$Council" = some m.cls := hown
  have hl : lv_has ls 1 [(0, .ref co)] := hl
  refine lv_aload_n hx hb dX2_rounds_0 rfl (lv_at hl 0 rfl) ?_
  refine pl_get (v := .int 0) hx hb hts (fun w h => mT (inX2 w h)) hown hG.1 hP hm_co hf_co rfl 0 (by decide) (hts _ (mT wg_224)) (fun _ h => h) rfl dX2_rounds_1 ?_
  refine lv_if_ne (tgt := 11) hx hb dX2_rounds_4 (by decide) (fun c1 => absurd rfl c1) (fun c1 => ?_)
  refine lv_iconst (v := 3) hx hb dX2_rounds_7 (by decide) ?_
  refine lv_goto (tgt := 12) hx hb dX2_rounds_8 (by decide) ?_
  exact ret_i (ty := .int) hx hb hr hlocks (rfl) hP hD hS (Nat.le_of_ble_eq_true rfl) (Nat.le_of_ble_eq_true rfl) (⟨rfl, rfl, rfl⟩) dX2_rounds_12

set_option maxHeartbeats 4000000 in
set_option maxRecDepth 100000 in
theorem k_X2_phaseAt (l : Launch) (g : GG) (L : List Nat) (f : HP) (sz : Nat) (co : Nat) (hm_co : co ∈ L) (hf_co : f co = .inr (2, [.int 0, .int 0, .int 0, .int 0, .int 0, .int 0, .int 0, .int 0])) : MtI l g yX2_phaseAt cX2_phaseAt 2 (some .int) ({ frames := 1, cells := 0, slots := 0, locals := 20 }) [.ref co, .int 0] L f sz (fun r u => u.1 = L ∧ u.2 = f ∧ r = 0) := by
  refine MtI.of (by decide +kernel) (Nat.le_of_ble_eq_true rfl) ?_
  intro p e s m below meth c A hEn hP hD hS ls hl
  obtain ⟨hx, hb, hr, hml, hown, hlocks, hts, hG, hA, hE, hnm⟩ := hEn
  have hown : s.vm.findClass "RulerWord$Council" = some m.cls := hown
  have hl : lv_has ls 2 [(0, .ref co), (1, .int 0)] := hl
  refine lv_iload_n hx hb dX2_phaseAt_0 rfl (lv_at hl 1 rfl) ?_
  refine lv_aload_n hx hb dX2_phaseAt_1 rfl (lv_at hl 0 rfl) ?_
  refine call_i (run_V (rm := { frames := 0, cells := 0, slots := 0, locals := 0 }) hx hb hml hown hts (k_X2_rounds l g _ _ _ co hm_co hf_co) cV_X2_rounds wg_738 ⟨Nat.le_of_ble_eq_true rfl, Nat.le_of_ble_eq_true rfl⟩ hG hE hA hP hD hS hm_co hf_co rfl rfl hl.1 (As := []) (rest := [.int 0]) rfl (Nat.le_of_ble_eq_true rfl) dX2_phaseAt_2 ⟨Nat.le_of_ble_eq_true rfl, Nat.le_of_ble_eq_true rfl⟩) hA hD hS (fun r1 L2 f3 H locs hp4 hP hD hS => ?_)
  obtain ⟨er5a, er5b, er5⟩ : L2 = _ ∧ f3 = _ ∧ r1 = 3 := hp4
  rw [er5a, er5b] at hP hD
  subst er5
  refine lv_idiv hx hb dX2_phaseAt_5 (by decide) ?_
  refine lv_topi (fun x6 ex6 => ?_)
  obtain rfl : x6 = 0 := ex6.trans (by decide)
  exact ret_i (ty := .int) hx hb hr hlocks (rfl) hP hD hS (Nat.le_of_ble_eq_true rfl) (Nat.le_of_ble_eq_true rfl) (⟨rfl, rfl, rfl⟩) dX2_phaseAt_6

set_option maxHeartbeats 4000000 in
set_option maxRecDepth 100000 in
theorem k_X3_agreedFrom (l : Launch) (g : GG) (L : List Nat) (f : HP) (sz : Nat) (nw n0 n1 n2 n3 n4 n5 n6 n7 n8 co : Nat) (hm_nw : nw ∈ L) (hf_nw : f nw = .inr (3, [.int 0, .int 0, .int 0, .int 0, .int 0, .int 0, .int 0, .long 0, .long 0, .ref n0, .ref n1, .ref n2, .ref n3, .ref n4, .ref n5, .ref n6, .ref n7, .ref n8])) (hm_co : co ∈ L) (hf_co : f co = .inr (2, [.int 0, .int 0, .int 0, .int 0, .int 0, .int 0, .int 0, .int 0])) : MtI l g yX3_agreedFrom cX3_agreedFrom 4 (some .int) ({ frames := 2, cells := 0, slots := 0, locals := 41 }) [.ref nw, .ref co] L f sz (fun r u => u.1 = L ∧ u.2 = f ∧ r = (-1)) := by
  refine MtI.of (by decide +kernel) (Nat.le_of_ble_eq_true rfl) ?_
  intro p e s m below meth c A hEn hP hD hS ls hl
  obtain ⟨hx, hb, hr, hml, hown, hlocks, hts, hG, hA, hE, hnm⟩ := hEn
  have hown : s.vm.findClass "RulerWord$Course" = some m.cls := hown
  have hl : lv_has ls 4 [(0, .ref nw), (1, .ref co)] := hl
  refine lv_iconst (v := (-1)) hx hb dX3_agreedFrom_0 (by decide) ?_
  refine lv_istore_n (lv' := [(2, .int (-1)), (0, .ref nw), (1, .ref co)]) hx hb dX3_agreedFrom_1 rfl hl (by decide) rfl (fun ls hl => ?_)
  refine lv_aload_n hx hb dX3_agreedFrom_2 rfl (lv_at hl 2 rfl) ?_
  refine lv_aload_n hx hb dX3_agreedFrom_3 rfl (lv_at hl 1 rfl) ?_
  refine pl_get (v := .int 0) hx hb hts (fun w h => mT (inX3 w h)) hown hG.1 hP hm_nw hf_nw rfl 2 (by decide) (hts _ (mT wg_340)) (fun _ h => h) rfl dX3_agreedFrom_4 ?_
  refine call_i (run_VN (rm := { frames := 1, cells := 0, slots := 0, locals := 20 }) hx hb hml hown hts (k_X2_phaseAt l g _ _ _ co hm_co hf_co) cV_X2_phaseAt wn_775 ⟨Nat.le_of_ble_eq_true rfl, Nat.le_of_ble_eq_true rfl⟩ hG hE hA hP hD hS hm_co hf_co rfl rfl hl.1 (As := [.int 0]) (rest := []) rfl (Nat.le_of_ble_eq_true rfl) dX3_agreedFrom_7 ⟨Nat.le_of_ble_eq_true rfl, Nat.le_of_ble_eq_true rfl⟩) hA hD hS (fun r1 L2 f3 H locs hp4 hP hD hS => ?_)
  obtain ⟨er5a, er5b, er5⟩ : L2 = _ ∧ f3 = _ ∧ r1 = 0 := hp4
  rw [er5a, er5b] at hP hD
  subst er5
  refine lv_iconst (v := 1) hx hb dX3_agreedFrom_10 (by decide) ?_
  refine lv_isub hx hb dX3_agreedFrom_11 ?_
  refine lv_topi (fun x6 ex6 => ?_)
  obtain rfl : x6 = (-1) := ex6.trans (by decide)
  refine lv_istore_n (lv' := [(3, .int (-1)), (2, .int (-1)), (0, .ref nw), (1, .ref co)]) hx hb dX3_agreedFrom_12 rfl hl (by decide) rfl (fun ls hl => ?_)
  refine lv_iload_n hx hb dX3_agreedFrom_13 rfl (lv_at hl 0 rfl) ?_
  refine lv_if_lt (tgt := 39) hx hb dX3_agreedFrom_14 (by decide) (fun c7 => ?_) (fun c7 => absurd (by decide) c7)
  refine lv_iload_n hx hb dX3_agreedFrom_39 rfl (lv_at hl 1 rfl) ?_
  exact ret_i (ty := .int) hx hb hr hlocks (rfl) hP hD hS (Nat.le_of_ble_eq_true rfl) (Nat.le_of_ble_eq_true rfl) (⟨rfl, rfl, rfl⟩) dX3_agreedFrom_40

set_option maxHeartbeats 4000000 in
set_option maxRecDepth 100000 in
theorem k_X0_takeBack (l : Launch) (g : GG) (L : List Nat) (f : HP) (sz : Nat) (ac ah : Nat) (nw : Nat) (hm_ac : ac ∈ L) (hf_ac : f ac = .inr (0, [.ref ah, .int 0, .int 0])) : MtI l g yX0_takeBack cX0_takeBack 2 (some .boolean) ({ frames := 0, cells := 0, slots := 0, locals := 0 }) [.ref ac, .ref nw] L f sz (fun r u => u.1 = L ∧ u.2 = f ∧ r = 0) := by
  refine MtI.of (by decide +kernel) (Nat.le_of_ble_eq_true rfl) ?_
  intro p e s m below meth c A hEn hP hD hS ls hl
  obtain ⟨hx, hb, hr, hml, hown, hlocks, hts, hG, hA, hE, hnm⟩ := hEn
  have hown : s.vm.findClass "RulerWord$Acts" = some m.cls := hown
  have hl : lv_has ls 2 [(0, .ref ac), (1, .ref nw)] := hl
  refine lv_aload_n hx hb dX0_takeBack_0 rfl (lv_at hl 0 rfl) ?_
  refine pl_get (v := .int 0) hx hb hts (fun w h => mT (inX0 w h)) hown hG.1 hP hm_ac hf_ac rfl 2 (by decide) (hts _ (mT wg_415)) (fun _ h => h) rfl dX0_takeBack_1 ?_
  refine lv_iconst (v := 1) hx hb dX0_takeBack_4 (by decide) ?_
  refine lv_icmp_ge (tgt := 10) hx hb dX0_takeBack_5 (by decide) (fun c1 => absurd c1 (by decide)) (fun c1 => ?_)
  refine lv_iconst (v := 0) hx hb dX0_takeBack_8 (by decide) ?_
  exact ret_i (ty := .boolean) hx hb hr hlocks (rfl) hP hD hS (Nat.le_of_ble_eq_true rfl) (Nat.le_of_ble_eq_true rfl) (⟨rfl, rfl, rfl⟩) dX0_takeBack_9

set_option maxHeartbeats 4000000 in
set_option maxRecDepth 100000 in
theorem k_X10_greatestBound (l : Launch) (g : GG) (L : List Nat) (f : HP) (sz : Nat) (form n : Int32)  : MtI l g yX10_greatestBound cX10_greatestBound 2 (some .int) ({ frames := 0, cells := 0, slots := 0, locals := 0 }) [.int form, .int n] L f sz (fun r u => u.1 = L ∧ u.2 = f ∧ r = grB form n) := by
  refine MtI.of (by decide +kernel) (Nat.le_of_ble_eq_true rfl) ?_
  intro p e s m below meth c A hEn hP hD hS ls hl
  obtain ⟨hx, hb, hr, hml, hown, hlocks, hts, hG, hA, hE, hnm⟩ := hEn
  have hown : s.vm.findClass "RulerWord" = some m.cls := hown
  have hl : lv_has ls 2 [(0, .int form), (1, .int n)] := hl
  refine lv_iload_n hx hb dX10_greatestBound_0 rfl (lv_at hl 0 rfl) ?_
  refine lv_if_ne (tgt := 12) hx hb dX10_greatestBound_1 (by decide) (fun c1 => ?_) (fun c1 => ?_)
  ·
    refine lv_iload_n hx hb dX10_greatestBound_12 rfl (lv_at hl 1 rfl) ?_
    refine lv_iconst (v := 1) hx hb dX10_greatestBound_13 (by decide) ?_
    refine lv_isub hx hb dX10_greatestBound_14 ?_
    refine lv_topi (fun x2 ex2 => ?_)
    refine lv_iconst (v := 4) hx hb dX10_greatestBound_15 (by decide) ?_
    refine lv_idiv hx hb dX10_greatestBound_16 (by decide) ?_
    refine lv_topi (fun x3 ex3 => ?_)
    exact ret_i (ty := .int) hx hb hr hlocks (rfl) hP hD hS (Nat.le_of_ble_eq_true rfl) (Nat.le_of_ble_eq_true rfl) (⟨rfl, rfl, by simp [grB, c1, ex2, ex3]⟩) dX10_greatestBound_17
  ·
    refine lv_iload_n hx hb dX10_greatestBound_4 rfl (lv_at hl 1 rfl) ?_
    refine lv_iconst (v := 1) hx hb dX10_greatestBound_5 (by decide) ?_
    refine lv_isub hx hb dX10_greatestBound_6 ?_
    refine lv_topi (fun x4 ex4 => ?_)
    refine lv_iconst (v := 3) hx hb dX10_greatestBound_7 (by decide) ?_
    refine lv_idiv hx hb dX10_greatestBound_8 (by decide) ?_
    refine lv_topi (fun x5 ex5 => ?_)
    refine lv_goto (tgt := 17) hx hb dX10_greatestBound_9 (by decide) ?_
    exact ret_i (ty := .int) hx hb hr hlocks (rfl) hP hD hS (Nat.le_of_ble_eq_true rfl) (Nat.le_of_ble_eq_true rfl) (⟨rfl, rfl, by simp [grB, c1, ex4, ex5]⟩) dX10_greatestBound_17
end
section
set_option maxHeartbeats 4000000 in
set_option maxRecDepth 100000 in
theorem k_X10_round (l : Launch) (g : GG) (L : List Nat) (f : HP) (sz : Nat) (x t dr co ot dp pn ch fr nw kp tr ac se tx rf : Nat) (hm_x : x ∈ L) (hf_x : f x = .inr (9, [.ref t, .ref dr, .ref co, .ref ot, .ref dp, .ref pn, .ref ch, .ref fr, .ref nw, .ref kp, .ref tr, .ref ac, .ref se, .ref tx, .ref rf, .int 0, .int 0, .long 0])) : MtI l g yX10_round cX10_round 1 (some .int) ({ frames := 1, cells := 0, slots := 0, locals := 20 }) [.ref x] L f sz (fun r _ => r = (-1)) := by
  refine MtI.of (by decide +kernel) (Nat.le_of_ble_eq_true rfl) ?_
  intro p e s m below meth c A hEn hP hD hS ls hl
  obtain ⟨hx, hb, hr, hml, hown, hlocks, hts, hG, hA, hE, hnm⟩ := hEn
  have hown : s.vm.findClass "RulerWord" = some m.cls := hown
  have hl : lv_has ls 1 [(0, .ref x)] := hl
  refine lv_aload_n hx hb dX10_round_0 rfl (lv_at hl 0 rfl) ?_
  refine call_i (run_V (rm := { frames := 0, cells := 0, slots := 0, locals := 0 }) hx hb hml hown hts (k_X10_roundsLeft l g _ _ _ x t dr co ot dp pn ch fr nw kp tr ac se tx rf hm_x hf_x) cV_X10_roundsLeft wg_751 ⟨Nat.le_of_ble_eq_true rfl, Nat.le_of_ble_eq_true rfl⟩ hG hE hA hP hD hS hm_x hf_x rfl rfl hl.1 (As := []) (rest := []) rfl (Nat.le_of_ble_eq_true rfl) dX10_round_1 ⟨Nat.le_of_ble_eq_true rfl, Nat.le_of_ble_eq_true rfl⟩) hA hD hS (fun r1 L2 f3 H locs hp4 hP hD hS => ?_)
  obtain ⟨er5a, er5b, er5⟩ : L2 = _ ∧ f3 = _ ∧ r1 = 0 := hp4
  rw [er5a, er5b] at hP hD
  subst er5
  refine lv_iconst (v := 1) hx hb dX10_round_4 (by decide) ?_
  refine lv_icmp_ge (tgt := 10) hx hb dX10_round_5 (by decide) (fun c6 => absurd c6 (by decide)) (fun c6 => ?_)
  refine lv_iconst (v := (-1)) hx hb dX10_round_8 (by decide) ?_
  exact ret_i (ty := .int) hx hb hr hlocks (rfl) hP hD hS (Nat.le_of_ble_eq_true rfl) (Nat.le_of_ble_eq_true rfl) (rfl) dX10_round_9

set_option maxHeartbeats 4000000 in
set_option maxRecDepth 100000 in
theorem k_X10_run (l : Launch) (g : GG) (L : List Nat) (f : HP) (sz : Nat) (x t dr co ot dp pn ch fr nw kp tr ac se tx rf : Nat) (hm_x : x ∈ L) (hf_x : f x = .inr (9, [.ref t, .ref dr, .ref co, .ref ot, .ref dp, .ref pn, .ref ch, .ref fr, .ref nw, .ref kp, .ref tr, .ref ac, .ref se, .ref tx, .ref rf, .int 0, .int 0, .long 0])) : MtI l g yX10_run cX10_run 3 (some .int) ({ frames := 1, cells := 0, slots := 0, locals := 20 }) [.ref x] L f sz (fun r _ => r = (-1)) := by
  refine MtI.of (by decide +kernel) (Nat.le_of_ble_eq_true rfl) ?_
  intro p e s m below meth c A hEn hP hD hS ls hl
  obtain ⟨hx, hb, hr, hml, hown, hlocks, hts, hG, hA, hE, hnm⟩ := hEn
  have hown : s.vm.findClass "RulerWord" = some m.cls := hown
  have hl : lv_has ls 3 [(0, .ref x)] := hl
  refine lv_aload_n hx hb dX10_run_0 rfl (lv_at hl 0 rfl) ?_
  refine call_i (run_V (rm := { frames := 0, cells := 0, slots := 0, locals := 0 }) hx hb hml hown hts (k_X10_roundsLeft l g _ _ _ x t dr co ot dp pn ch fr nw kp tr ac se tx rf hm_x hf_x) cV_X10_roundsLeft wg_751 ⟨Nat.le_of_ble_eq_true rfl, Nat.le_of_ble_eq_true rfl⟩ hG hE hA hP hD hS hm_x hf_x rfl rfl hl.1 (As := []) (rest := []) rfl (Nat.le_of_ble_eq_true rfl) dX10_run_1 ⟨Nat.le_of_ble_eq_true rfl, Nat.le_of_ble_eq_true rfl⟩) hA hD hS (fun r1 L2 f3 H locs hp4 hP hD hS => ?_)
  obtain ⟨er5a, er5b, er5⟩ : L2 = _ ∧ f3 = _ ∧ r1 = 0 := hp4
  rw [er5a, er5b] at hP hD
  subst er5
  refine lv_istore_n (lv' := [(1, .int 0), (0, .ref x)]) hx hb dX10_run_4 rfl hl (by decide) rfl (fun ls hl => ?_)
  refine lv_iload_n hx hb dX10_run_5 rfl (lv_at hl 0 rfl) ?_
  refine lv_iconst (v := 1) hx hb dX10_run_6 (by decide) ?_
  refine lv_icmp_ge (tgt := 12) hx hb dX10_run_7 (by decide) (fun c6 => absurd c6 (by decide)) (fun c6 => ?_)
  refine lv_iconst (v := (-1)) hx hb dX10_run_10 (by decide) ?_
  exact ret_i (ty := .int) hx hb hr hlocks (rfl) hP hD hS (Nat.le_of_ble_eq_true rfl) (Nat.le_of_ble_eq_true rfl) (rfl) dX10_run_11

set_option maxHeartbeats 4000000 in
set_option maxRecDepth 100000 in
theorem k_X10_peer (l : Launch) (g : GG) (L : List Nat) (f : HP) (sz : Nat) (x t dr co ot dp pn ch fr nw kp tr ac se tx rf : Nat) (i : Int32) (w : Int32) (hm_x : x ∈ L) (hf_x : f x = .inr (9, [.ref t, .ref dr, .ref co, .ref ot, .ref dp, .ref pn, .ref ch, .ref fr, .ref nw, .ref kp, .ref tr, .ref ac, .ref se, .ref tx, .ref rf, .int 0, .int 0, .long 0])) : MtI l g yX10_peer cX10_peer 3 (some .int) ({ frames := 1, cells := 0, slots := 0, locals := 21 }) [.ref x, .int i, .int w] L f sz (fun r _ => r = (-1)) := by
  refine MtI.of (by decide +kernel) (Nat.le_of_ble_eq_true rfl) ?_
  intro p e s m below meth c A hEn hP hD hS ls hl
  obtain ⟨hx, hb, hr, hml, hown, hlocks, hts, hG, hA, hE, hnm⟩ := hEn
  have hown : s.vm.findClass "RulerWord" = some m.cls := hown
  have hl : lv_has ls 3 [(0, .ref x), (1, .int i), (2, .int w)] := hl
  refine lv_aload_n hx hb dX10_peer_0 rfl (lv_at hl 0 rfl) ?_
  refine lv_iload_n hx hb dX10_peer_1 rfl (lv_at hl 1 rfl) ?_
  refine call_i (run_V (rm := { frames := 0, cells := 0, slots := 0, locals := 0 }) hx hb hml hown hts (k_X10_isPeer l g _ _ _ x t dr co ot dp pn ch fr nw kp tr ac se tx rf i hm_x hf_x) cV_X10_isPeer wg_897 ⟨Nat.le_of_ble_eq_true rfl, Nat.le_of_ble_eq_true rfl⟩ hG hE hA hP hD hS hm_x hf_x rfl rfl hl.1 (As := [.int i]) (rest := []) rfl (Nat.le_of_ble_eq_true rfl) dX10_peer_2 ⟨Nat.le_of_ble_eq_true rfl, Nat.le_of_ble_eq_true rfl⟩) hA hD hS (fun r1 L2 f3 H locs hp4 hP hD hS => ?_)
  obtain ⟨er5a, er5b, er5⟩ : L2 = _ ∧ f3 = _ ∧ r1 = 0 := hp4
  rw [er5a, er5b] at hP hD
  subst er5
  refine lv_if_ne (tgt := 10) hx hb dX10_peer_5 (by decide) (fun c6 => absurd rfl c6) (fun c6 => ?_)
  refine lv_iconst (v := (-1)) hx hb dX10_peer_8 (by decide) ?_
  exact ret_i (ty := .int) hx hb hr hlocks (rfl) hP hD hS (Nat.le_of_ble_eq_true rfl) (Nat.le_of_ble_eq_true rfl) (rfl) dX10_peer_9

set_option maxHeartbeats 4000000 in
set_option maxRecDepth 100000 in
theorem k_X10_end (l : Launch) (g : GG) (L : List Nat) (f : HP) (sz : Nat) (x t dr co ot dp pn ch fr nw kp tr ac se tx rf tb : Nat) (n : Int32) (hm_x : x ∈ L) (hf_x : f x = .inr (9, [.ref t, .ref dr, .ref co, .ref ot, .ref dp, .ref pn, .ref ch, .ref fr, .ref nw, .ref kp, .ref tr, .ref ac, .ref se, .ref tx, .ref rf, .int 0, .int 0, .long 0])) (hm_t : t ∈ L) (hf_t : f t = .inr (8, [.ref tb, .int 0, .int 0, .int 0, .int 0])) : MtI l g yX10_end cX10_end 2 (some .boolean) ({ frames := 0, cells := 0, slots := 0, locals := 0 }) [.ref x, .int n] L f sz (fun r _ => r = endV n) := by
  refine MtI.of (by decide +kernel) (Nat.le_of_ble_eq_true rfl) ?_
  intro p e s m below meth c A hEn hP hD hS ls hl
  obtain ⟨hx, hb, hr, hml, hown, hlocks, hts, hG, hA, hE, hnm⟩ := hEn
  have hown : s.vm.findClass "RulerWord" = some m.cls := hown
  have hl : lv_has ls 2 [(0, .ref x), (1, .int n)] := hl
  refine lv_iload_n hx hb dX10_end_0 rfl (lv_at hl 1 rfl) ?_
  refine lv_if_lt (tgt := 15) hx hb dX10_end_1 (by decide) (fun c1 => ?_) (fun c1 => ?_)
  ·
    refine lv_iconst (v := 0) hx hb dX10_end_15 (by decide) ?_
    exact ret_i (ty := .boolean) hx hb hr hlocks (rfl) hP hD hS (Nat.le_of_ble_eq_true rfl) (Nat.le_of_ble_eq_true rfl) (by simp [endV, c1]) dX10_end_16
  ·
    refine lv_iload_n hx hb dX10_end_4 rfl (lv_at hl 1 rfl) ?_
    refine lv_aload_n hx hb dX10_end_5 rfl (lv_at hl 0 rfl) ?_
    refine pl_get (v := .ref t) hx hb hts (fun w h => mT (inX10 w h)) hown hG.1 hP hm_x hf_x rfl 0 (by decide) (hts _ (mT wg_475)) (fun _ h => h) rfl dX10_end_6 ?_
    refine pl_getN (v := .int 0) hx hb hts (fun w h => mT (inX8 w h)) hown hG.1 hP hm_t hf_t rfl 1 (by decide) (hG.2.1 _ wn_197) (fun _ h => h) rfl dX10_end_9 ?_
    refine lv_icmp_le (tgt := 17) hx hb dX10_end_12 (by decide) (fun c2 => ?_) (fun c2 => ?_)
    ·
      refine lv_aload_n hx hb dX10_end_17 rfl (lv_at hl 0 rfl) ?_
      refine pl_get (v := .ref t) hx hb hts (fun w h => mT (inX10 w h)) hown hG.1 hP hm_x hf_x rfl 0 (by decide) (hts _ (mT wg_475)) (fun _ h => h) rfl dX10_end_18 ?_
      refine lv_iload_n hx hb dX10_end_21 rfl (lv_at hl 1 rfl) ?_
      refine pl_putN (ty := .int) (v := .int n) (fs' := [.ref tb, .int n, .int 0, .int 0, .int 0]) hx hb hts (fun w h => mT (inX8 w h)) tyX8 tyX8_ok nmX8 hown hG.1 hP hD hS hm_t hf_t rfl 1 (by decide) (hG.2.1 _ wn_197) (fun _ h => h) rfl (by decide +kernel) (rfl) (rfl) (Nat.le_of_ble_eq_true rfl) rfl dX10_end_22 (fun H locs f3 hf5 ho4 hP hD hS => ?_)
      have hf6 := (ho4 x (kne hf_x hf_t (by decide))).trans hf_x
      refine lv_iconst (v := 1) hx hb dX10_end_25 (by decide) ?_
      exact ret_i (ty := .boolean) hx hb hr hlocks (rfl) hP hD hS (Nat.le_of_ble_eq_true rfl) (Nat.le_of_ble_eq_true rfl) (by simp [endV, c1, c2]) dX10_end_26
    ·
      refine lv_iconst (v := 0) hx hb dX10_end_15 (by decide) ?_
      exact ret_i (ty := .boolean) hx hb hr hlocks (rfl) hP hD hS (Nat.le_of_ble_eq_true rfl) (Nat.le_of_ble_eq_true rfl) (by simp [endV, c1, c2]) dX10_end_16

set_option maxHeartbeats 4000000 in
set_option maxRecDepth 100000 in
theorem k_X10_rule (l : Launch) (g : GG) (L : List Nat) (f : HP) (sz : Nat) (x t dr co ot dp pn ch fr nw kp tr ac se tx rf pl pb : Nat) (w : Int32) (hm_x : x ∈ L) (hf_x : f x = .inr (9, [.ref t, .ref dr, .ref co, .ref ot, .ref dp, .ref pn, .ref ch, .ref fr, .ref nw, .ref kp, .ref tr, .ref ac, .ref se, .ref tx, .ref rf, .int 0, .int 0, .long 0])) (hm_pn : pn ∈ L) (hf_pn : f pn = .inr (6, [.int 0, .int 0, .ref pl])) (hm_pl : pl ∈ L) (hf_pl : f pl = .inr (5, [.ref pb, .int 0])) : MtI l g yX10_rule cX10_rule 2 (some .int) ({ frames := 0, cells := 0, slots := 0, locals := 0 }) [.ref x, .int w] L f sz (fun r _ => r = ruleV w) := by
  refine MtI.of (by decide +kernel) (Nat.le_of_ble_eq_true rfl) ?_
  intro p e s m below meth c A hEn hP hD hS ls hl
  obtain ⟨hx, hb, hr, hml, hown, hlocks, hts, hG, hA, hE, hnm⟩ := hEn
  have hown : s.vm.findClass "RulerWord" = some m.cls := hown
  have hl : lv_has ls 2 [(0, .ref x), (1, .int w)] := hl
  refine lv_iload_n hx hb dX10_rule_0 rfl (lv_at hl 1 rfl) ?_
  refine lv_bipush (v := 10) hx hb dX10_rule_1 (by decide) ?_
  refine lv_icmp_ne (tgt := 17) hx hb dX10_rule_3 (by decide) (fun c1 => ?_) (fun c1 => ?_)
  ·
    refine lv_aload_n hx hb dX10_rule_17 rfl (lv_at hl 0 rfl) ?_
    refine pl_get (v := .int 0) hx hb hts (fun w h => mT (inX10 w h)) hown hG.1 hP hm_x hf_x rfl 15 (by decide) (hts _ (mT wg_490)) (fun _ h => h) rfl dX10_rule_18 ?_
    refine lv_if_ne (tgt := 27) hx hb dX10_rule_21 (by decide) (fun c2 => absurd rfl c2) (fun c2 => ?_)
    refine lv_ldc hx hb hown (hts _ (mT wg_733)) dX10_rule_24 ?_
    exact ret_i (ty := .int) hx hb hr hlocks (rfl) hP hD hS (Nat.le_of_ble_eq_true rfl) (Nat.le_of_ble_eq_true rfl) (by simp [ruleV, c1]) dX10_rule_26
  ·
    refine lv_aload_n hx hb dX10_rule_6 rfl (lv_at hl 0 rfl) ?_
    refine pl_get (v := .ref pn) hx hb hts (fun w h => mT (inX10 w h)) hown hG.1 hP hm_x hf_x rfl 5 (by decide) (hts _ (mT wg_480)) (fun _ h => h) rfl dX10_rule_7 ?_
    refine pl_getN (v := .ref pl) hx hb hts (fun w h => mT (inX6 w h)) hown hG.1 hP hm_pn hf_pn rfl 2 (by decide) (hG.2.1 _ wn_289) (fun _ h => h) rfl dX10_rule_10 ?_
    refine pl_getN (v := .int 0) hx hb hts (fun w h => mT (inX5 w h)) hown hG.1 hP hm_pl hf_pl rfl 1 (by decide) (hG.2.1 _ wn_271) (fun _ h => h) rfl dX10_rule_13 ?_
    exact ret_i (ty := .int) hx hb hr hlocks (rfl) hP hD hS (Nat.le_of_ble_eq_true rfl) (Nat.le_of_ble_eq_true rfl) (by simp [ruleV, c1]) dX10_rule_16

set_option maxHeartbeats 4000000 in
set_option maxRecDepth 100000 in
theorem k_X10_say (l : Launch) (g : GG) (L : List Nat) (f : HP) (sz : Nat) (x t dr co ot dp pn ch fr nw kp tr ac se tx rf : Nat) (a1 : Int32) (a2 : Int32) (a3 : Int32) (a4 : Int32) (a5 : Int32) (hm_x : x ∈ L) (hf_x : f x = .inr (9, [.ref t, .ref dr, .ref co, .ref ot, .ref dp, .ref pn, .ref ch, .ref fr, .ref nw, .ref kp, .ref tr, .ref ac, .ref se, .ref tx, .ref rf, .int 0, .int 0, .long 0])) (hm_rf : rf ∈ L) (hf_rf : f rf = .inl (g.2.1 0, 5, .inl (fun _ => 0))) : MtI l g yX10_say cX10_say 7 (some .int) ({ frames := 1, cells := 0, slots := 0, locals := 25 }) [.ref x, .int a1, .int a2, .int a3, .int a4, .int a5] L f sz (fun r _ => r = (-1)) := by
  refine MtI.of (by decide +kernel) (Nat.le_of_ble_eq_true rfl) ?_
  intro p e s m below meth c A hEn hP hD hS ls hl
  obtain ⟨hx, hb, hr, hml, hown, hlocks, hts, hG, hA, hE, hnm⟩ := hEn
  have hown : s.vm.findClass "RulerWord" = some m.cls := hown
  have hl : lv_has ls 7 [(0, .ref x), (1, .int a1), (2, .int a2), (3, .int a3), (4, .int a4), (5, .int a5)] := hl
  refine lv_aload_n hx hb dX10_say_0 rfl (lv_at hl 0 rfl) ?_
  refine lv_iload_n hx hb dX10_say_1 rfl (lv_at hl 1 rfl) ?_
  refine lv_iload_n hx hb dX10_say_2 rfl (lv_at hl 2 rfl) ?_
  refine lv_iload_n hx hb dX10_say_3 rfl (lv_at hl 3 rfl) ?_
  refine lv_iload hx hb dX10_say_4 (lv_at hl 4 rfl) ?_
  refine lv_iload hx hb dX10_say_6 (lv_at hl 5 rfl) ?_
  refine call_i (run_V (rm := { frames := 0, cells := 0, slots := 0, locals := 0 }) hx hb hml hown hts (k_X10_whyNotSaid l g _ _ _ x t dr co ot dp pn ch fr nw kp tr ac se tx rf a1 a2 a3 a4 a5 hm_x hf_x) cV_X10_whyNotSaid wg_889 ⟨Nat.le_of_ble_eq_true rfl, Nat.le_of_ble_eq_true rfl⟩ hG hE hA hP hD hS hm_x hf_x rfl rfl hl.1 (As := [.int a1, .int a2, .int a3, .int a4, .int a5]) (rest := []) rfl (Nat.le_of_ble_eq_true rfl) dX10_say_8 ⟨Nat.le_of_ble_eq_true rfl, Nat.le_of_ble_eq_true rfl⟩) hA hD hS (fun r1 L2 f3 H locs hp4 hP hD hS => ?_)
  obtain ⟨er5a, er5b, er5⟩ : L2 = _ ∧ f3 = _ ∧ r1 = 0 := hp4
  rw [er5a, er5b] at hP hD
  subst er5
  refine lv_istore (lv' := [(6, .int 0), (0, .ref x), (1, .int a1), (2, .int a2), (3, .int a3), (4, .int a4), (5, .int a5)]) hx hb dX10_say_11 hl (by decide) rfl (fun ls hl => ?_)
  refine lv_iload hx hb dX10_say_13 (lv_at hl 0 rfl) ?_
  refine lv_iconst (v := (-1)) hx hb dX10_say_15 (by decide) ?_
  refine lv_icmp_eq (tgt := 26) hx hb dX10_say_16 (by decide) (fun c6 => absurd c6 (by decide)) (fun c6 => ?_)
  refine lv_aload_n hx hb dX10_say_19 rfl (lv_at hl 1 rfl) ?_
  refine lv_iload hx hb dX10_say_20 (lv_at hl 0 rfl) ?_
  refine call_i (run_V (rm := { frames := 0, cells := 0, slots := 0, locals := 0 }) hx hb hml hown hts (k_X10_refuse l g _ _ _ x t dr co ot dp pn ch fr nw kp tr ac se tx rf hm_x hf_x hm_rf hf_rf) cV_X10_refuse wg_906 ⟨Nat.le_of_ble_eq_true rfl, Nat.le_of_ble_eq_true rfl⟩ hG hE hA hP hD hS hm_x hf_x rfl rfl hl.1 (As := [.int 0]) (rest := []) rfl (Nat.le_of_ble_eq_true rfl) dX10_say_22 ⟨Nat.le_of_ble_eq_true rfl, Nat.le_of_ble_eq_true rfl⟩) hA hD hS (fun r7 L8 f9 H locs hp10 hP hD hS => ?_)
  have er11 : r7 = (-1) := hp10
  subst er11
  exact ret_i (ty := .int) hx hb hr hlocks (rfl) hP hD hS (Nat.le_of_ble_eq_true rfl) (Nat.le_of_ble_eq_true rfl) (rfl) dX10_say_25

set_option maxHeartbeats 4000000 in
set_option maxRecDepth 100000 in
theorem k_X10_starts (l : Launch) (g : GG) (L : List Nat) (f : HP) (sz : Nat) (x t dr co ot dp pn ch fr nw kp tr ac se tx rf : Nat) (b : Int32) (hm_x : x ∈ L) (hf_x : f x = .inr (9, [.ref t, .ref dr, .ref co, .ref ot, .ref dp, .ref pn, .ref ch, .ref fr, .ref nw, .ref kp, .ref tr, .ref ac, .ref se, .ref tx, .ref rf, .int 0, .int 0, .long 0])) (hm_co : co ∈ L) (hf_co : f co = .inr (2, [.int 0, .int 0, .int 0, .int 0, .int 0, .int 0, .int 0, .int 0])) (hm_rf : rf ∈ L) (hf_rf : f rf = .inl (g.2.1 0, 5, .inl (fun _ => 0))) : MtI l g yX10_starts cX10_starts 4 (some .int) ({ frames := 1, cells := 0, slots := 0, locals := 22 }) [.ref x, .int b] L f sz (fun r _ => r = (-1)) := by
  refine MtI.of (by decide +kernel) (Nat.le_of_ble_eq_true rfl) ?_
  intro p e s m below meth c A hEn hP hD hS ls hl
  obtain ⟨hx, hb, hr, hml, hown, hlocks, hts, hG, hA, hE, hnm⟩ := hEn
  have hown : s.vm.findClass "RulerWord" = some m.cls := hown
  have hl : lv_has ls 4 [(0, .ref x), (1, .int b)] := hl
  refine lv_aload_n hx hb dX10_starts_0 rfl (lv_at hl 0 rfl) ?_
  refine lv_iload_n hx hb dX10_starts_1 rfl (lv_at hl 1 rfl) ?_
  refine lv_aload_n hx hb dX10_starts_2 rfl (lv_at hl 0 rfl) ?_
  refine pl_get (v := .ref co) hx hb hts (fun w h => mT (inX10 w h)) hown hG.1 hP hm_x hf_x rfl 2 (by decide) (hts _ (mT wg_477)) (fun _ h => h) rfl dX10_starts_3 ?_
  refine call_i (run_VN (rm := { frames := 0, cells := 0, slots := 0, locals := 0 }) hx hb hml hown hts (k_X2_everybody l g _ _ _ co hm_co hf_co) cV_X2_everybody wn_918 ⟨Nat.le_of_ble_eq_true rfl, Nat.le_of_ble_eq_true rfl⟩ hG hE hA hP hD hS hm_co hf_co rfl rfl hl.1 (As := []) (rest := [.int b, .ref x]) rfl (Nat.le_of_ble_eq_true rfl) dX10_starts_6 ⟨Nat.le_of_ble_eq_true rfl, Nat.le_of_ble_eq_true rfl⟩) hA hD hS (fun r1 L2 f3 H locs hp4 hP hD hS => ?_)
  obtain ⟨er5a, er5b, er5⟩ : L2 = _ ∧ f3 = _ ∧ r1 = 0 := hp4
  rw [er5a, er5b] at hP hD
  subst er5
  refine call_i (run_V (rm := { frames := 0, cells := 0, slots := 0, locals := 0 }) hx hb hml hown hts (k_X10_whyNotTold l g _ _ _ x t dr co ot dp pn ch fr nw kp tr ac se tx rf b 0 hm_x hf_x) cV_X10_whyNotTold wg_922 ⟨Nat.le_of_ble_eq_true rfl, Nat.le_of_ble_eq_true rfl⟩ hG hE hA hP hD hS hm_x hf_x rfl rfl hl.1 (As := [.int b, .int 0]) (rest := []) rfl (Nat.le_of_ble_eq_true rfl) dX10_starts_9 ⟨Nat.le_of_ble_eq_true rfl, Nat.le_of_ble_eq_true rfl⟩) hA hD hS (fun r6 L7 f8 H locs hp9 hP hD hS => ?_)
  obtain ⟨er10a, er10b, er10⟩ : L7 = _ ∧ f8 = _ ∧ r6 = 0 := hp9
  rw [er10a, er10b] at hP hD
  subst er10
  refine lv_istore_n (lv' := [(2, .int 0), (0, .ref x), (1, .int b)]) hx hb dX10_starts_12 rfl hl (by decide) rfl (fun ls hl => ?_)
  refine lv_iload_n hx hb dX10_starts_13 rfl (lv_at hl 0 rfl) ?_
  refine lv_iconst (v := (-1)) hx hb dX10_starts_14 (by decide) ?_
  refine lv_icmp_eq (tgt := 24) hx hb dX10_starts_15 (by decide) (fun c11 => absurd c11 (by decide)) (fun c11 => ?_)
  refine lv_aload_n hx hb dX10_starts_18 rfl (lv_at hl 1 rfl) ?_
  refine lv_iload_n hx hb dX10_starts_19 rfl (lv_at hl 0 rfl) ?_
  refine call_i (run_V (rm := { frames := 0, cells := 0, slots := 0, locals := 0 }) hx hb hml hown hts (k_X10_refuse l g _ _ _ x t dr co ot dp pn ch fr nw kp tr ac se tx rf hm_x hf_x hm_rf hf_rf) cV_X10_refuse wg_906 ⟨Nat.le_of_ble_eq_true rfl, Nat.le_of_ble_eq_true rfl⟩ hG hE hA hP hD hS hm_x hf_x rfl rfl hl.1 (As := [.int 0]) (rest := []) rfl (Nat.le_of_ble_eq_true rfl) dX10_starts_20 ⟨Nat.le_of_ble_eq_true rfl, Nat.le_of_ble_eq_true rfl⟩) hA hD hS (fun r12 L13 f14 H locs hp15 hP hD hS => ?_)
  have er16 : r12 = (-1) := hp15
  subst er16
  exact ret_i (ty := .int) hx hb hr hlocks (rfl) hP hD hS (Nat.le_of_ble_eq_true rfl) (Nat.le_of_ble_eq_true rfl) (rfl) dX10_starts_23

set_option maxHeartbeats 4000000 in
set_option maxRecDepth 100000 in
theorem k_X10_falseOnes (l : Launch) (g : GG) (L : List Nat) (f : HP) (sz : Nat) (x t dr co ot dp pn ch fr nw kp tr ac se tx rf : Nat) (b : Int32) (hm_x : x ∈ L) (hf_x : f x = .inr (9, [.ref t, .ref dr, .ref co, .ref ot, .ref dp, .ref pn, .ref ch, .ref fr, .ref nw, .ref kp, .ref tr, .ref ac, .ref se, .ref tx, .ref rf, .int 0, .int 0, .long 0])) (hm_co : co ∈ L) (hf_co : f co = .inr (2, [.int 0, .int 0, .int 0, .int 0, .int 0, .int 0, .int 0, .int 0])) (hm_rf : rf ∈ L) (hf_rf : f rf = .inl (g.2.1 0, 5, .inl (fun _ => 0))) : MtI l g yX10_falseOnes cX10_falseOnes 4 (some .int) ({ frames := 1, cells := 0, slots := 0, locals := 22 }) [.ref x, .int b] L f sz (fun r _ => r = (-1)) := by
  refine MtI.of (by decide +kernel) (Nat.le_of_ble_eq_true rfl) ?_
  intro p e s m below meth c A hEn hP hD hS ls hl
  obtain ⟨hx, hb, hr, hml, hown, hlocks, hts, hG, hA, hE, hnm⟩ := hEn
  have hown : s.vm.findClass "RulerWord" = some m.cls := hown
  have hl : lv_has ls 4 [(0, .ref x), (1, .int b)] := hl
  refine lv_aload_n hx hb dX10_falseOnes_0 rfl (lv_at hl 0 rfl) ?_
  refine lv_iload_n hx hb dX10_falseOnes_1 rfl (lv_at hl 1 rfl) ?_
  refine lv_aload_n hx hb dX10_falseOnes_2 rfl (lv_at hl 0 rfl) ?_
  refine pl_get (v := .ref co) hx hb hts (fun w h => mT (inX10 w h)) hown hG.1 hP hm_x hf_x rfl 2 (by decide) (hts _ (mT wg_477)) (fun _ h => h) rfl dX10_falseOnes_3 ?_
  refine call_i (run_VN (rm := { frames := 0, cells := 0, slots := 0, locals := 0 }) hx hb hml hown hts (k_X2_everybody l g _ _ _ co hm_co hf_co) cV_X2_everybody wn_918 ⟨Nat.le_of_ble_eq_true rfl, Nat.le_of_ble_eq_true rfl⟩ hG hE hA hP hD hS hm_co hf_co rfl rfl hl.1 (As := []) (rest := [.int b, .ref x]) rfl (Nat.le_of_ble_eq_true rfl) dX10_falseOnes_6 ⟨Nat.le_of_ble_eq_true rfl, Nat.le_of_ble_eq_true rfl⟩) hA hD hS (fun r1 L2 f3 H locs hp4 hP hD hS => ?_)
  obtain ⟨er5a, er5b, er5⟩ : L2 = _ ∧ f3 = _ ∧ r1 = 0 := hp4
  rw [er5a, er5b] at hP hD
  subst er5
  refine lv_iconst (v := 1) hx hb dX10_falseOnes_9 (by decide) ?_
  refine lv_isub hx hb dX10_falseOnes_10 ?_
  refine lv_topi (fun x6 ex6 => ?_)
  obtain rfl : x6 = (-1) := ex6.trans (by decide)
  refine call_i (run_V (rm := { frames := 0, cells := 0, slots := 0, locals := 0 }) hx hb hml hown hts (k_X10_whyNotTold l g _ _ _ x t dr co ot dp pn ch fr nw kp tr ac se tx rf b ((-1)) hm_x hf_x) cV_X10_whyNotTold wg_922 ⟨Nat.le_of_ble_eq_true rfl, Nat.le_of_ble_eq_true rfl⟩ hG hE hA hP hD hS hm_x hf_x rfl rfl hl.1 (As := [.int b, .int (-1)]) (rest := []) rfl (Nat.le_of_ble_eq_true rfl) dX10_falseOnes_11 ⟨Nat.le_of_ble_eq_true rfl, Nat.le_of_ble_eq_true rfl⟩) hA hD hS (fun r7 L8 f9 H locs hp10 hP hD hS => ?_)
  obtain ⟨er11a, er11b, er11⟩ : L8 = _ ∧ f9 = _ ∧ r7 = 0 := hp10
  rw [er11a, er11b] at hP hD
  subst er11
  refine lv_istore_n (lv' := [(2, .int 0), (0, .ref x), (1, .int b)]) hx hb dX10_falseOnes_14 rfl hl (by decide) rfl (fun ls hl => ?_)
  refine lv_iload_n hx hb dX10_falseOnes_15 rfl (lv_at hl 0 rfl) ?_
  refine lv_iconst (v := (-1)) hx hb dX10_falseOnes_16 (by decide) ?_
  refine lv_icmp_eq (tgt := 26) hx hb dX10_falseOnes_17 (by decide) (fun c12 => absurd c12 (by decide)) (fun c12 => ?_)
  refine lv_aload_n hx hb dX10_falseOnes_20 rfl (lv_at hl 1 rfl) ?_
  refine lv_iload_n hx hb dX10_falseOnes_21 rfl (lv_at hl 0 rfl) ?_
  refine call_i (run_V (rm := { frames := 0, cells := 0, slots := 0, locals := 0 }) hx hb hml hown hts (k_X10_refuse l g _ _ _ x t dr co ot dp pn ch fr nw kp tr ac se tx rf hm_x hf_x hm_rf hf_rf) cV_X10_refuse wg_906 ⟨Nat.le_of_ble_eq_true rfl, Nat.le_of_ble_eq_true rfl⟩ hG hE hA hP hD hS hm_x hf_x rfl rfl hl.1 (As := [.int 0]) (rest := []) rfl (Nat.le_of_ble_eq_true rfl) dX10_falseOnes_22 ⟨Nat.le_of_ble_eq_true rfl, Nat.le_of_ble_eq_true rfl⟩) hA hD hS (fun r13 L14 f15 H locs hp16 hP hD hS => ?_)
  have er17 : r13 = (-1) := hp16
  subst er17
  exact ret_i (ty := .int) hx hb hr hlocks (rfl) hP hD hS (Nat.le_of_ble_eq_true rfl) (Nat.le_of_ble_eq_true rfl) (rfl) dX10_falseOnes_25

set_option maxHeartbeats 4000000 in
set_option maxRecDepth 100000 in
theorem k_X10_heard (l : Launch) (g : GG) (L : List Nat) (f : HP) (sz : Nat) (x t dr co ot dp pn ch fr nw kp tr ac se tx rf : Nat) (a1 : Int32) (a2 : Int32) (a3 : Int32) (a4 : Int32) (hm_x : x ∈ L) (hf_x : f x = .inr (9, [.ref t, .ref dr, .ref co, .ref ot, .ref dp, .ref pn, .ref ch, .ref fr, .ref nw, .ref kp, .ref tr, .ref ac, .ref se, .ref tx, .ref rf, .int 0, .int 0, .long 0])) : MtI l g yX10_heard cX10_heard 6 (some .int) ({ frames := 1, cells := 0, slots := 0, locals := 21 }) [.ref x, .int a1, .int a2, .int a3, .int a4] L f sz (fun r _ => r = (-1)) := by
  refine MtI.of (by decide +kernel) (Nat.le_of_ble_eq_true rfl) ?_
  intro p e s m below meth c A hEn hP hD hS ls hl
  obtain ⟨hx, hb, hr, hml, hown, hlocks, hts, hG, hA, hE, hnm⟩ := hEn
  have hown : s.vm.findClass "RulerWord" = some m.cls := hown
  have hl : lv_has ls 6 [(0, .ref x), (1, .int a1), (2, .int a2), (3, .int a3), (4, .int a4)] := hl
  refine lv_aload_n hx hb dX10_heard_0 rfl (lv_at hl 0 rfl) ?_
  refine lv_iload_n hx hb dX10_heard_1 rfl (lv_at hl 3 rfl) ?_
  refine call_i (run_V (rm := { frames := 0, cells := 0, slots := 0, locals := 0 }) hx hb hml hown hts (k_X10_isPeer l g _ _ _ x t dr co ot dp pn ch fr nw kp tr ac se tx rf a3 hm_x hf_x) cV_X10_isPeer wg_897 ⟨Nat.le_of_ble_eq_true rfl, Nat.le_of_ble_eq_true rfl⟩ hG hE hA hP hD hS hm_x hf_x rfl rfl hl.1 (As := [.int a3]) (rest := []) rfl (Nat.le_of_ble_eq_true rfl) dX10_heard_2 ⟨Nat.le_of_ble_eq_true rfl, Nat.le_of_ble_eq_true rfl⟩) hA hD hS (fun r1 L2 f3 H locs hp4 hP hD hS => ?_)
  obtain ⟨er5a, er5b, er5⟩ : L2 = _ ∧ f3 = _ ∧ r1 = 0 := hp4
  rw [er5a, er5b] at hP hD
  subst er5
  refine lv_if_eq (tgt := 26) hx hb dX10_heard_5 (by decide) (fun c6 => ?_) (fun c6 => absurd (by decide) c6)
  refine lv_iconst (v := (-1)) hx hb dX10_heard_26 (by decide) ?_
  exact ret_i (ty := .int) hx hb hr hlocks (rfl) hP hD hS (Nat.le_of_ble_eq_true rfl) (Nat.le_of_ble_eq_true rfl) (rfl) dX10_heard_27

set_option maxHeartbeats 4000000 in
set_option maxRecDepth 100000 in
theorem k_X10_told (l : Launch) (g : GG) (L : List Nat) (f : HP) (sz : Nat) (x t dr co ot dp pn ch fr nw kp tr ac se tx rf : Nat) (i : Int32) (p0 : Int32) (w : Int32) (hm_x : x ∈ L) (hf_x : f x = .inr (9, [.ref t, .ref dr, .ref co, .ref ot, .ref dp, .ref pn, .ref ch, .ref fr, .ref nw, .ref kp, .ref tr, .ref ac, .ref se, .ref tx, .ref rf, .int 0, .int 0, .long 0])) : MtI l g yX10_told cX10_told 5 (some .int) ({ frames := 1, cells := 0, slots := 0, locals := 21 }) [.ref x, .int i, .int p0, .int w] L f sz (fun r _ => r = (-1)) := by
  refine MtI.of (by decide +kernel) (Nat.le_of_ble_eq_true rfl) ?_
  intro p e s m below meth c A hEn hP hD hS ls hl
  obtain ⟨hx, hb, hr, hml, hown, hlocks, hts, hG, hA, hE, hnm⟩ := hEn
  have hown : s.vm.findClass "RulerWord" = some m.cls := hown
  have hl : lv_has ls 5 [(0, .ref x), (1, .int i), (2, .int p0), (3, .int w)] := hl
  refine lv_aload_n hx hb dX10_told_0 rfl (lv_at hl 0 rfl) ?_
  refine lv_iload_n hx hb dX10_told_1 rfl (lv_at hl 1 rfl) ?_
  refine call_i (run_V (rm := { frames := 0, cells := 0, slots := 0, locals := 0 }) hx hb hml hown hts (k_X10_isPeer l g _ _ _ x t dr co ot dp pn ch fr nw kp tr ac se tx rf i hm_x hf_x) cV_X10_isPeer wg_897 ⟨Nat.le_of_ble_eq_true rfl, Nat.le_of_ble_eq_true rfl⟩ hG hE hA hP hD hS hm_x hf_x rfl rfl hl.1 (As := [.int i]) (rest := []) rfl (Nat.le_of_ble_eq_true rfl) dX10_told_2 ⟨Nat.le_of_ble_eq_true rfl, Nat.le_of_ble_eq_true rfl⟩) hA hD hS (fun r1 L2 f3 H locs hp4 hP hD hS => ?_)
  obtain ⟨er5a, er5b, er5⟩ : L2 = _ ∧ f3 = _ ∧ r1 = 0 := hp4
  rw [er5a, er5b] at hP hD
  subst er5
  refine lv_if_eq (tgt := 16) hx hb dX10_told_5 (by decide) (fun c6 => ?_) (fun c6 => absurd (by decide) c6)
  refine lv_iconst (v := (-1)) hx hb dX10_told_16 (by decide) ?_
  exact ret_i (ty := .int) hx hb hr hlocks (rfl) hP hD hS (Nat.le_of_ble_eq_true rfl) (Nat.le_of_ble_eq_true rfl) (rfl) dX10_told_17

set_option maxHeartbeats 4000000 in
set_option maxRecDepth 100000 in
theorem k_X10_agreed (l : Launch) (g : GG) (L : List Nat) (f : HP) (sz : Nat) (x t dr co ot dp pn ch fr nw kp tr ac se tx rf n0 n1 n2 n3 n4 n5 n6 n7 n8 : Nat) (hm_x : x ∈ L) (hf_x : f x = .inr (9, [.ref t, .ref dr, .ref co, .ref ot, .ref dp, .ref pn, .ref ch, .ref fr, .ref nw, .ref kp, .ref tr, .ref ac, .ref se, .ref tx, .ref rf, .int 0, .int 0, .long 0])) (hm_nw : nw ∈ L) (hf_nw : f nw = .inr (3, [.int 0, .int 0, .int 0, .int 0, .int 0, .int 0, .int 0, .long 0, .long 0, .ref n0, .ref n1, .ref n2, .ref n3, .ref n4, .ref n5, .ref n6, .ref n7, .ref n8])) (hm_co : co ∈ L) (hf_co : f co = .inr (2, [.int 0, .int 0, .int 0, .int 0, .int 0, .int 0, .int 0, .int 0])) : MtI l g yX10_agreed cX10_agreed 1 (some .int) ({ frames := 3, cells := 0, slots := 0, locals := 64 }) [.ref x] L f sz (fun r _ => r = (-1)) := by
  refine MtI.of (by decide +kernel) (Nat.le_of_ble_eq_true rfl) ?_
  intro p e s m below meth c A hEn hP hD hS ls hl
  obtain ⟨hx, hb, hr, hml, hown, hlocks, hts, hG, hA, hE, hnm⟩ := hEn
  have hown : s.vm.findClass "RulerWord" = some m.cls := hown
  have hl : lv_has ls 1 [(0, .ref x)] := hl
  refine lv_aload_n hx hb dX10_agreed_0 rfl (lv_at hl 0 rfl) ?_
  refine pl_get (v := .ref nw) hx hb hts (fun w h => mT (inX10 w h)) hown hG.1 hP hm_x hf_x rfl 8 (by decide) (hts _ (mT wg_483)) (fun _ h => h) rfl dX10_agreed_1 ?_
  refine lv_aload_n hx hb dX10_agreed_4 rfl (lv_at hl 0 rfl) ?_
  refine pl_get (v := .ref co) hx hb hts (fun w h => mT (inX10 w h)) hown hG.1 hP hm_x hf_x rfl 2 (by decide) (hts _ (mT wg_477)) (fun _ h => h) rfl dX10_agreed_5 ?_
  refine call_i (run_VN (rm := { frames := 2, cells := 0, slots := 0, locals := 41 }) hx hb hml hown hts (k_X3_agreedFrom l g _ _ _ nw n0 n1 n2 n3 n4 n5 n6 n7 n8 co hm_nw hf_nw hm_co hf_co) cV_X3_agreedFrom wn_968 ⟨Nat.le_of_ble_eq_true rfl, Nat.le_of_ble_eq_true rfl⟩ hG hE hA hP hD hS hm_nw hf_nw rfl rfl hl.1 (As := [.ref co]) (rest := []) rfl (Nat.le_of_ble_eq_true rfl) dX10_agreed_8 ⟨Nat.le_of_ble_eq_true rfl, Nat.le_of_ble_eq_true rfl⟩) hA hD hS (fun r1 L2 f3 H locs hp4 hP hD hS => ?_)
  obtain ⟨er5a, er5b, er5⟩ : L2 = _ ∧ f3 = _ ∧ r1 = (-1) := hp4
  rw [er5a, er5b] at hP hD
  subst er5
  exact ret_i (ty := .int) hx hb hr hlocks (rfl) hP hD hS (Nat.le_of_ble_eq_true rfl) (Nat.le_of_ble_eq_true rfl) (rfl) dX10_agreed_11

set_option maxHeartbeats 4000000 in
set_option maxRecDepth 100000 in
theorem k_X10_state (l : Launch) (g : GG) (L : List Nat) (f : HP) (sz : Nat) (x t dr co ot dp pn ch fr nw kp tr ac se tx rf : Nat) (w : Int32) (hm_x : x ∈ L) (hf_x : f x = .inr (9, [.ref t, .ref dr, .ref co, .ref ot, .ref dp, .ref pn, .ref ch, .ref fr, .ref nw, .ref kp, .ref tr, .ref ac, .ref se, .ref tx, .ref rf, .int 0, .int 0, .long 0])) : MtI l g yX10_state cX10_state 4 (some .int) ({ frames := 0, cells := 0, slots := 0, locals := 0 }) [.ref x, .int w] L f sz (fun r _ => r = (-1)) := by
  refine MtI.of (by decide +kernel) (Nat.le_of_ble_eq_true rfl) ?_
  intro p e s m below meth c A hEn hP hD hS ls hl
  obtain ⟨hx, hb, hr, hml, hown, hlocks, hts, hG, hA, hE, hnm⟩ := hEn
  have hown : s.vm.findClass "RulerWord" = some m.cls := hown
  have hl : lv_has ls 4 [(0, .ref x), (1, .int w)] := hl
  refine lv_aload_n hx hb dX10_state_0 rfl (lv_at hl 0 rfl) ?_
  refine pl_get (v := .int 0) hx hb hts (fun w h => mT (inX10 w h)) hown hG.1 hP hm_x hf_x rfl 15 (by decide) (hts _ (mT wg_490)) (fun _ h => h) rfl dX10_state_1 ?_
  refine lv_if_ne (tgt := 9) hx hb dX10_state_4 (by decide) (fun c1 => absurd rfl c1) (fun c1 => ?_)
  refine lv_iconst (v := (-1)) hx hb dX10_state_7 (by decide) ?_
  exact ret_i (ty := .int) hx hb hr hlocks (rfl) hP hD hS (Nat.le_of_ble_eq_true rfl) (Nat.le_of_ble_eq_true rfl) (rfl) dX10_state_8

set_option maxHeartbeats 4000000 in
set_option maxRecDepth 100000 in
theorem k_X10_letters (l : Launch) (g : GG) (L : List Nat) (f : HP) (sz : Nat) (x t dr co ot dp pn ch fr nw kp tr ac se tx rf : Nat) (w : Int32) (hm_x : x ∈ L) (hf_x : f x = .inr (9, [.ref t, .ref dr, .ref co, .ref ot, .ref dp, .ref pn, .ref ch, .ref fr, .ref nw, .ref kp, .ref tr, .ref ac, .ref se, .ref tx, .ref rf, .int 0, .int 0, .long 0])) : MtI l g yX10_letters cX10_letters 3 (some .int) ({ frames := 0, cells := 0, slots := 0, locals := 0 }) [.ref x, .int w] L f sz (fun r _ => r = (-1)) := by
  refine MtI.of (by decide +kernel) (Nat.le_of_ble_eq_true rfl) ?_
  intro p e s m below meth c A hEn hP hD hS ls hl
  obtain ⟨hx, hb, hr, hml, hown, hlocks, hts, hG, hA, hE, hnm⟩ := hEn
  have hown : s.vm.findClass "RulerWord" = some m.cls := hown
  have hl : lv_has ls 3 [(0, .ref x), (1, .int w)] := hl
  refine lv_aload_n hx hb dX10_letters_0 rfl (lv_at hl 0 rfl) ?_
  refine pl_get (v := .int 0) hx hb hts (fun w h => mT (inX10 w h)) hown hG.1 hP hm_x hf_x rfl 15 (by decide) (hts _ (mT wg_490)) (fun _ h => h) rfl dX10_letters_1 ?_
  refine lv_if_ne (tgt := 9) hx hb dX10_letters_4 (by decide) (fun c1 => absurd rfl c1) (fun c1 => ?_)
  refine lv_iconst (v := (-1)) hx hb dX10_letters_7 (by decide) ?_
  exact ret_i (ty := .int) hx hb hr hlocks (rfl) hP hD hS (Nat.le_of_ble_eq_true rfl) (Nat.le_of_ble_eq_true rfl) (rfl) dX10_letters_8

set_option maxHeartbeats 4000000 in
set_option maxRecDepth 100000 in
theorem k_X10_trueRuler (l : Launch) (g : GG) (L : List Nat) (f : HP) (sz : Nat) (x t dr co ot dp pn ch fr nw kp tr ac se tx rf : Nat) (hm_x : x ∈ L) (hf_x : f x = .inr (9, [.ref t, .ref dr, .ref co, .ref ot, .ref dp, .ref pn, .ref ch, .ref fr, .ref nw, .ref kp, .ref tr, .ref ac, .ref se, .ref tx, .ref rf, .int 0, .int 0, .long 0])) : MtI l g yX10_trueRuler cX10_trueRuler 2 (some .int) ({ frames := 0, cells := 0, slots := 0, locals := 0 }) [.ref x] L f sz (fun r _ => r = (-1)) := by
  refine MtI.of (by decide +kernel) (Nat.le_of_ble_eq_true rfl) ?_
  intro p e s m below meth c A hEn hP hD hS ls hl
  obtain ⟨hx, hb, hr, hml, hown, hlocks, hts, hG, hA, hE, hnm⟩ := hEn
  have hown : s.vm.findClass "RulerWord" = some m.cls := hown
  have hl : lv_has ls 2 [(0, .ref x)] := hl
  refine lv_iconst (v := 0) hx hb dX10_trueRuler_0 (by decide) ?_
  refine lv_istore_n (lv' := [(1, .int 0), (0, .ref x)]) hx hb dX10_trueRuler_1 rfl hl (by decide) rfl (fun ls hl => ?_)
  refine lv_aload_n hx hb dX10_trueRuler_2 rfl (lv_at hl 1 rfl) ?_
  refine pl_get (v := .int 0) hx hb hts (fun w h => mT (inX10 w h)) hown hG.1 hP hm_x hf_x rfl 15 (by decide) (hts _ (mT wg_490)) (fun _ h => h) rfl dX10_trueRuler_3 ?_
  refine lv_if_eq (tgt := 49) hx hb dX10_trueRuler_6 (by decide) (fun c1 => ?_) (fun c1 => absurd (by decide) c1)
  refine lv_iconst (v := (-1)) hx hb dX10_trueRuler_49 (by decide) ?_
  exact ret_i (ty := .int) hx hb hr hlocks (rfl) hP hD hS (Nat.le_of_ble_eq_true rfl) (Nat.le_of_ble_eq_true rfl) (rfl) dX10_trueRuler_50

set_option maxHeartbeats 4000000 in
set_option maxRecDepth 100000 in
theorem k_X10_greatest (l : Launch) (g : GG) (L : List Nat) (f : HP) (sz : Nat) (x : Nat) (form : Int32) (n : Int32)  : MtI l g yX10_greatest cX10_greatest 3 (some .int) ({ frames := 1, cells := 0, slots := 0, locals := 21 }) [.ref x, .int form, .int n] L f sz (fun r _ => r = grV form n) := by
  refine MtI.of (by decide +kernel) (Nat.le_of_ble_eq_true rfl) ?_
  intro p e s m below meth c A hEn hP hD hS ls hl
  obtain ⟨hx, hb, hr, hml, hown, hlocks, hts, hG, hA, hE, hnm⟩ := hEn
  have hown : s.vm.findClass "RulerWord" = some m.cls := hown
  have hl : lv_has ls 3 [(0, .ref x), (1, .int form), (2, .int n)] := hl
  refine lv_iload_n hx hb dX10_greatest_0 rfl (lv_at hl 1 rfl) ?_
  refine lv_if_lt (tgt := 20) hx hb dX10_greatest_1 (by decide) (fun c1 => ?_) (fun c1 => ?_)
  ·
    refine lv_iconst (v := (-1)) hx hb dX10_greatest_20 (by decide) ?_
    exact ret_i (ty := .int) hx hb hr hlocks (rfl) hP hD hS (Nat.le_of_ble_eq_true rfl) (Nat.le_of_ble_eq_true rfl) (by simp [grV, c1]) dX10_greatest_21
  ·
    refine lv_iload_n hx hb dX10_greatest_4 rfl (lv_at hl 1 rfl) ?_
    refine lv_iconst (v := 1) hx hb dX10_greatest_5 (by decide) ?_
    refine lv_icmp_gt (tgt := 20) hx hb dX10_greatest_6 (by decide) (fun c2 => ?_) (fun c2 => ?_)
    ·
      refine lv_iconst (v := (-1)) hx hb dX10_greatest_20 (by decide) ?_
      exact ret_i (ty := .int) hx hb hr hlocks (rfl) hP hD hS (Nat.le_of_ble_eq_true rfl) (Nat.le_of_ble_eq_true rfl) (by simp [grV, c1, c2]) dX10_greatest_21
    ·
      refine lv_iload_n hx hb dX10_greatest_9 rfl (lv_at hl 2 rfl) ?_
      refine lv_iconst (v := 1) hx hb dX10_greatest_10 (by decide) ?_
      refine lv_icmp_lt (tgt := 20) hx hb dX10_greatest_11 (by decide) (fun c3 => ?_) (fun c3 => ?_)
      ·
        refine lv_iconst (v := (-1)) hx hb dX10_greatest_20 (by decide) ?_
        exact ret_i (ty := .int) hx hb hr hlocks (rfl) hP hD hS (Nat.le_of_ble_eq_true rfl) (Nat.le_of_ble_eq_true rfl) (by simp [grV, c1, c2, c3]) dX10_greatest_21
      ·
        refine lv_iload_n hx hb dX10_greatest_14 rfl (lv_at hl 2 rfl) ?_
        refine lv_bipush (v := 100) hx hb dX10_greatest_15 (by decide) ?_
        refine lv_icmp_le (tgt := 22) hx hb dX10_greatest_17 (by decide) (fun c4 => ?_) (fun c4 => ?_)
        ·
          refine lv_iload_n hx hb dX10_greatest_22 rfl (lv_at hl 1 rfl) ?_
          refine lv_iload_n hx hb dX10_greatest_23 rfl (lv_at hl 2 rfl) ?_
          refine call_i (run_S (rm := { frames := 0, cells := 0, slots := 0, locals := 0 }) hx hb hml hown hts (k_X10_greatestBound l g _ _ _ form n) cS_X10_greatestBound wg_1013 ⟨Nat.le_of_ble_eq_true rfl, Nat.le_of_ble_eq_true rfl⟩ hG hE hA hP hD hS rfl hl.1 (As := [.int form, .int n]) (rest := []) rfl (Nat.le_of_ble_eq_true rfl) dX10_greatest_24 ⟨Nat.le_of_ble_eq_true rfl, Nat.le_of_ble_eq_true rfl⟩) hA hD hS (fun r5 L6 f7 H locs hp8 hP hD hS => ?_)
          obtain ⟨er9a, er9b, er9⟩ : L6 = _ ∧ f7 = _ ∧ r5 = grB form n := hp8
          rw [er9a, er9b] at hP hD
          exact ret_i (ty := .int) hx hb hr hlocks (rfl) hP hD hS (Nat.le_of_ble_eq_true rfl) (Nat.le_of_ble_eq_true rfl) (by simp [grV, c1, c2, c3, c4, er9]) dX10_greatest_27
        ·
          refine lv_iconst (v := (-1)) hx hb dX10_greatest_20 (by decide) ?_
          exact ret_i (ty := .int) hx hb hr hlocks (rfl) hP hD hS (Nat.le_of_ble_eq_true rfl) (Nat.le_of_ble_eq_true rfl) (by simp [grV, c1, c2, c3, c4]) dX10_greatest_21

set_option maxHeartbeats 4000000 in
set_option maxRecDepth 100000 in
theorem k_X10_free (l : Launch) (g : GG) (L : List Nat) (f : HP) (sz : Nat) (x t dr co ot dp pn ch fr nw kp tr ac se tx rf : Nat) (hm_x : x ∈ L) (hf_x : f x = .inr (9, [.ref t, .ref dr, .ref co, .ref ot, .ref dp, .ref pn, .ref ch, .ref fr, .ref nw, .ref kp, .ref tr, .ref ac, .ref se, .ref tx, .ref rf, .int 0, .int 0, .long 0])) : MtI l g yX10_free cX10_free 1 (some .int) ({ frames := 0, cells := 0, slots := 0, locals := 0 }) [.ref x] L f sz (fun r _ => r = (-1)) := by
  refine MtI.of (by decide +kernel) (Nat.le_of_ble_eq_true rfl) ?_
  intro p e s m below meth c A hEn hP hD hS ls hl
  obtain ⟨hx, hb, hr, hml, hown, hlocks, hts, hG, hA, hE, hnm⟩ := hEn
  have hown : s.vm.findClass "RulerWord" = some m.cls := hown
  have hl : lv_has ls 1 [(0, .ref x)] := hl
  refine lv_aload_n hx hb dX10_free_0 rfl (lv_at hl 0 rfl) ?_
  refine pl_get (v := .int 0) hx hb hts (fun w h => mT (inX10 w h)) hown hG.1 hP hm_x hf_x rfl 15 (by decide) (hts _ (mT wg_490)) (fun _ h => h) rfl dX10_free_1 ?_
  refine lv_if_eq (tgt := 21) hx hb dX10_free_4 (by decide) (fun c1 => ?_) (fun c1 => absurd (by decide) c1)
  refine lv_iconst (v := (-1)) hx hb dX10_free_21 (by decide) ?_
  exact ret_i (ty := .int) hx hb hr hlocks (rfl) hP hD hS (Nat.le_of_ble_eq_true rfl) (Nat.le_of_ble_eq_true rfl) (rfl) dX10_free_22

set_option maxHeartbeats 4000000 in
set_option maxRecDepth 100000 in
theorem k_X10_broken (l : Launch) (g : GG) (L : List Nat) (f : HP) (sz : Nat) (x t dr co ot dp pn ch fr nw kp tr ac se tx rf n0 n1 n2 n3 n4 n5 n6 n7 n8 : Nat) (hm_x : x ∈ L) (hf_x : f x = .inr (9, [.ref t, .ref dr, .ref co, .ref ot, .ref dp, .ref pn, .ref ch, .ref fr, .ref nw, .ref kp, .ref tr, .ref ac, .ref se, .ref tx, .ref rf, .int 0, .int 0, .long 0])) (hm_nw : nw ∈ L) (hf_nw : f nw = .inr (3, [.int 0, .int 0, .int 0, .int 0, .int 0, .int 0, .int 0, .long 0, .long 0, .ref n0, .ref n1, .ref n2, .ref n3, .ref n4, .ref n5, .ref n6, .ref n7, .ref n8])) : MtI l g yX10_broken cX10_broken 1 (some .int) ({ frames := 1, cells := 0, slots := 0, locals := 21 }) [.ref x] L f sz (fun r _ => r = (-2)) := by
  refine MtI.of (by decide +kernel) (Nat.le_of_ble_eq_true rfl) ?_
  intro p e s m below meth c A hEn hP hD hS ls hl
  obtain ⟨hx, hb, hr, hml, hown, hlocks, hts, hG, hA, hE, hnm⟩ := hEn
  have hown : s.vm.findClass "RulerWord" = some m.cls := hown
  have hl : lv_has ls 1 [(0, .ref x)] := hl
  refine lv_aload_n hx hb dX10_broken_0 rfl (lv_at hl 0 rfl) ?_
  refine lv_aload_n hx hb dX10_broken_1 rfl (lv_at hl 0 rfl) ?_
  refine pl_get (v := .ref nw) hx hb hts (fun w h => mT (inX10 w h)) hown hG.1 hP hm_x hf_x rfl 8 (by decide) (hts _ (mT wg_483)) (fun _ h => h) rfl dX10_broken_2 ?_
  refine pl_getN (v := .int 0) hx hb hts (fun w h => mT (inX3 w h)) hown hG.1 hP hm_nw hf_nw rfl 1 (by decide) (hG.2.1 _ wn_339) (fun _ h => h) rfl dX10_broken_5 ?_
  refine call_i (run_V (rm := { frames := 0, cells := 0, slots := 0, locals := 0 }) hx hb hml hown hts (k_X10_isAsked l g _ _ _ x t dr co ot dp pn ch fr nw kp tr ac se tx rf 0 hm_x hf_x) cV_X10_isAsked wg_1032 ⟨Nat.le_of_ble_eq_true rfl, Nat.le_of_ble_eq_true rfl⟩ hG hE hA hP hD hS hm_x hf_x rfl rfl hl.1 (As := [.int 0]) (rest := []) rfl (Nat.le_of_ble_eq_true rfl) dX10_broken_8 ⟨Nat.le_of_ble_eq_true rfl, Nat.le_of_ble_eq_true rfl⟩) hA hD hS (fun r1 L2 f3 H locs hp4 hP hD hS => ?_)
  obtain ⟨er5a, er5b, er5⟩ : L2 = _ ∧ f3 = _ ∧ r1 = 0 := hp4
  rw [er5a, er5b] at hP hD
  subst er5
  refine lv_if_ne (tgt := 17) hx hb dX10_broken_11 (by decide) (fun c6 => absurd rfl c6) (fun c6 => ?_)
  refine lv_bipush (v := (-2)) hx hb dX10_broken_14 (by decide) ?_
  exact ret_i (ty := .int) hx hb hr hlocks (rfl) hP hD hS (Nat.le_of_ble_eq_true rfl) (Nat.le_of_ble_eq_true rfl) (rfl) dX10_broken_16

set_option maxHeartbeats 4000000 in
set_option maxRecDepth 100000 in
theorem k_X10_brokenStarts (l : Launch) (g : GG) (L : List Nat) (f : HP) (sz : Nat) (x t dr co ot dp pn ch fr nw kp tr ac se tx rf n0 n1 n2 n3 n4 n5 n6 n7 n8 : Nat) (w : Int32) (hm_x : x ∈ L) (hf_x : f x = .inr (9, [.ref t, .ref dr, .ref co, .ref ot, .ref dp, .ref pn, .ref ch, .ref fr, .ref nw, .ref kp, .ref tr, .ref ac, .ref se, .ref tx, .ref rf, .int 0, .int 0, .long 0])) (hm_nw : nw ∈ L) (hf_nw : f nw = .inr (3, [.int 0, .int 0, .int 0, .int 0, .int 0, .int 0, .int 0, .long 0, .long 0, .ref n0, .ref n1, .ref n2, .ref n3, .ref n4, .ref n5, .ref n6, .ref n7, .ref n8])) : MtI l g yX10_brokenStarts cX10_brokenStarts 2 (some .int) ({ frames := 1, cells := 0, slots := 0, locals := 21 }) [.ref x, .int w] L f sz (fun r _ => r = (-2)) := by
  refine MtI.of (by decide +kernel) (Nat.le_of_ble_eq_true rfl) ?_
  intro p e s m below meth c A hEn hP hD hS ls hl
  obtain ⟨hx, hb, hr, hml, hown, hlocks, hts, hG, hA, hE, hnm⟩ := hEn
  have hown : s.vm.findClass "RulerWord" = some m.cls := hown
  have hl : lv_has ls 2 [(0, .ref x), (1, .int w)] := hl
  refine lv_iload_n hx hb dX10_brokenStarts_0 rfl (lv_at hl 1 rfl) ?_
  refine lv_if_lt (tgt := 23) hx hb dX10_brokenStarts_1 (by decide) (fun c1 => ?_) (fun c1 => ?_)
  ·
    refine lv_bipush (v := (-2)) hx hb dX10_brokenStarts_23 (by decide) ?_
    exact ret_i (ty := .int) hx hb hr hlocks (rfl) hP hD hS (Nat.le_of_ble_eq_true rfl) (Nat.le_of_ble_eq_true rfl) (rfl) dX10_brokenStarts_25
  ·
    refine lv_iload_n hx hb dX10_brokenStarts_4 rfl (lv_at hl 1 rfl) ?_
    refine lv_iconst (v := 1) hx hb dX10_brokenStarts_5 (by decide) ?_
    refine lv_icmp_gt (tgt := 23) hx hb dX10_brokenStarts_6 (by decide) (fun c2 => ?_) (fun c2 => ?_)
    ·
      refine lv_bipush (v := (-2)) hx hb dX10_brokenStarts_23 (by decide) ?_
      exact ret_i (ty := .int) hx hb hr hlocks (rfl) hP hD hS (Nat.le_of_ble_eq_true rfl) (Nat.le_of_ble_eq_true rfl) (rfl) dX10_brokenStarts_25
    ·
      refine lv_aload_n hx hb dX10_brokenStarts_9 rfl (lv_at hl 0 rfl) ?_
      refine lv_aload_n hx hb dX10_brokenStarts_10 rfl (lv_at hl 0 rfl) ?_
      refine pl_get (v := .ref nw) hx hb hts (fun w h => mT (inX10 w h)) hown hG.1 hP hm_x hf_x rfl 8 (by decide) (hts _ (mT wg_483)) (fun _ h => h) rfl dX10_brokenStarts_11 ?_
      refine pl_getN (v := .int 0) hx hb hts (fun w h => mT (inX3 w h)) hown hG.1 hP hm_nw hf_nw rfl 1 (by decide) (hG.2.1 _ wn_339) (fun _ h => h) rfl dX10_brokenStarts_14 ?_
      refine call_i (run_V (rm := { frames := 0, cells := 0, slots := 0, locals := 0 }) hx hb hml hown hts (k_X10_isAsked l g _ _ _ x t dr co ot dp pn ch fr nw kp tr ac se tx rf 0 hm_x hf_x) cV_X10_isAsked wg_1032 ⟨Nat.le_of_ble_eq_true rfl, Nat.le_of_ble_eq_true rfl⟩ hG hE hA hP hD hS hm_x hf_x rfl rfl hl.1 (As := [.int 0]) (rest := []) rfl (Nat.le_of_ble_eq_true rfl) dX10_brokenStarts_17 ⟨Nat.le_of_ble_eq_true rfl, Nat.le_of_ble_eq_true rfl⟩) hA hD hS (fun r3 L4 f5 H locs hp6 hP hD hS => ?_)
      obtain ⟨er7a, er7b, er7⟩ : L4 = _ ∧ f5 = _ ∧ r3 = 0 := hp6
      rw [er7a, er7b] at hP hD
      subst er7
      refine lv_if_ne (tgt := 26) hx hb dX10_brokenStarts_20 (by decide) (fun c8 => absurd rfl c8) (fun c8 => ?_)
      refine lv_bipush (v := (-2)) hx hb dX10_brokenStarts_23 (by decide) ?_
      exact ret_i (ty := .int) hx hb hr hlocks (rfl) hP hD hS (Nat.le_of_ble_eq_true rfl) (Nat.le_of_ble_eq_true rfl) (rfl) dX10_brokenStarts_25

set_option maxHeartbeats 4000000 in
set_option maxRecDepth 100000 in
theorem k_X10_canBreak (l : Launch) (g : GG) (L : List Nat) (f : HP) (sz : Nat) (x t dr co ot dp pn ch fr nw kp tr ac se tx rf : Nat) (w : Int32) (hm_x : x ∈ L) (hf_x : f x = .inr (9, [.ref t, .ref dr, .ref co, .ref ot, .ref dp, .ref pn, .ref ch, .ref fr, .ref nw, .ref kp, .ref tr, .ref ac, .ref se, .ref tx, .ref rf, .int 0, .int 0, .long 0])) : MtI l g yX10_canBreak cX10_canBreak 5 (some .int) ({ frames := 0, cells := 0, slots := 0, locals := 0 }) [.ref x, .int w] L f sz (fun r _ => r = (-2)) := by
  refine MtI.of (by decide +kernel) (Nat.le_of_ble_eq_true rfl) ?_
  intro p e s m below meth c A hEn hP hD hS ls hl
  obtain ⟨hx, hb, hr, hml, hown, hlocks, hts, hG, hA, hE, hnm⟩ := hEn
  have hown : s.vm.findClass "RulerWord" = some m.cls := hown
  have hl : lv_has ls 5 [(0, .ref x), (1, .int w)] := hl
  refine lv_iload_n hx hb dX10_canBreak_0 rfl (lv_at hl 1 rfl) ?_
  refine lv_if_lt (tgt := 27) hx hb dX10_canBreak_1 (by decide) (fun c1 => ?_) (fun c1 => ?_)
  ·
    refine lv_bipush (v := (-2)) hx hb dX10_canBreak_27 (by decide) ?_
    exact ret_i (ty := .int) hx hb hr hlocks (rfl) hP hD hS (Nat.le_of_ble_eq_true rfl) (Nat.le_of_ble_eq_true rfl) (rfl) dX10_canBreak_29
  ·
    refine lv_iload_n hx hb dX10_canBreak_4 rfl (lv_at hl 1 rfl) ?_
    refine lv_iconst (v := 1) hx hb dX10_canBreak_5 (by decide) ?_
    refine lv_icmp_gt (tgt := 27) hx hb dX10_canBreak_6 (by decide) (fun c2 => ?_) (fun c2 => ?_)
    ·
      refine lv_bipush (v := (-2)) hx hb dX10_canBreak_27 (by decide) ?_
      exact ret_i (ty := .int) hx hb hr hlocks (rfl) hP hD hS (Nat.le_of_ble_eq_true rfl) (Nat.le_of_ble_eq_true rfl) (rfl) dX10_canBreak_29
    ·
      refine lv_aload_n hx hb dX10_canBreak_9 rfl (lv_at hl 0 rfl) ?_
      refine pl_get (v := .int 0) hx hb hts (fun w h => mT (inX10 w h)) hown hG.1 hP hm_x hf_x rfl 15 (by decide) (hts _ (mT wg_490)) (fun _ h => h) rfl dX10_canBreak_10 ?_
      refine lv_if_eq (tgt := 27) hx hb dX10_canBreak_13 (by decide) (fun c3 => ?_) (fun c3 => absurd (by decide) c3)
      refine lv_bipush (v := (-2)) hx hb dX10_canBreak_27 (by decide) ?_
      exact ret_i (ty := .int) hx hb hr hlocks (rfl) hP hD hS (Nat.le_of_ble_eq_true rfl) (Nat.le_of_ble_eq_true rfl) (rfl) dX10_canBreak_29

set_option maxHeartbeats 4000000 in
set_option maxRecDepth 100000 in
theorem k_X10_brokenPlan (l : Launch) (g : GG) (L : List Nat) (f : HP) (sz : Nat) (x t dr co ot dp pn ch fr nw kp tr ac se tx rf n0 n1 n2 n3 n4 n5 n6 n7 n8 : Nat) (k : Int32) (hm_x : x ∈ L) (hf_x : f x = .inr (9, [.ref t, .ref dr, .ref co, .ref ot, .ref dp, .ref pn, .ref ch, .ref fr, .ref nw, .ref kp, .ref tr, .ref ac, .ref se, .ref tx, .ref rf, .int 0, .int 0, .long 0])) (hm_nw : nw ∈ L) (hf_nw : f nw = .inr (3, [.int 0, .int 0, .int 0, .int 0, .int 0, .int 0, .int 0, .long 0, .long 0, .ref n0, .ref n1, .ref n2, .ref n3, .ref n4, .ref n5, .ref n6, .ref n7, .ref n8])) : MtI l g yX10_brokenPlan cX10_brokenPlan 5 (some .int) ({ frames := 2, cells := 0, slots := 0, locals := 41 }) [.ref x, .int k] L f sz (fun r _ => r = (-2)) := by
  refine MtI.of (by decide +kernel) (Nat.le_of_ble_eq_true rfl) ?_
  intro p e s m below meth c A hEn hP hD hS ls hl
  obtain ⟨hx, hb, hr, hml, hown, hlocks, hts, hG, hA, hE, hnm⟩ := hEn
  have hown : s.vm.findClass "RulerWord" = some m.cls := hown
  have hl : lv_has ls 5 [(0, .ref x), (1, .int k)] := hl
  refine lv_aload_n hx hb dX10_brokenPlan_0 rfl (lv_at hl 0 rfl) ?_
  refine call_i (run_V (rm := { frames := 1, cells := 0, slots := 0, locals := 21 }) hx hb hml hown hts (k_X10_broken l g _ _ _ x t dr co ot dp pn ch fr nw kp tr ac se tx rf n0 n1 n2 n3 n4 n5 n6 n7 n8 hm_x hf_x hm_nw hf_nw) cV_X10_broken wg_1126 ⟨Nat.le_of_ble_eq_true rfl, Nat.le_of_ble_eq_true rfl⟩ hG hE hA hP hD hS hm_x hf_x rfl rfl hl.1 (As := []) (rest := []) rfl (Nat.le_of_ble_eq_true rfl) dX10_brokenPlan_1 ⟨Nat.le_of_ble_eq_true rfl, Nat.le_of_ble_eq_true rfl⟩) hA hD hS (fun r1 L2 f3 H locs hp4 hP hD hS => ?_)
  have er5 : r1 = (-2) := hp4
  subst er5
  refine lv_istore_n (lv' := [(2, .int (-2)), (0, .ref x), (1, .int k)]) hx hb dX10_brokenPlan_4 rfl hl (by decide) rfl (fun ls hl => ?_)
  refine lv_iload_n hx hb dX10_brokenPlan_5 rfl (lv_at hl 0 rfl) ?_
  refine lv_if_ge (tgt := 11) hx hb dX10_brokenPlan_6 (by decide) (fun c6 => absurd c6 (by decide)) (fun c6 => ?_)
  refine lv_iload_n hx hb dX10_brokenPlan_9 rfl (lv_at hl 0 rfl) ?_
  exact ret_i (ty := .int) hx hb hr hlocks (rfl) hP hD hS (Nat.le_of_ble_eq_true rfl) (Nat.le_of_ble_eq_true rfl) (rfl) dX10_brokenPlan_10

set_option maxHeartbeats 4000000 in
set_option maxRecDepth 100000 in
theorem k_X10_weakest (l : Launch) (g : GG) (L : List Nat) (f : HP) (sz : Nat) (x t dr co ot dp pn ch fr nw kp tr ac se tx rf : Nat) (hm_x : x ∈ L) (hf_x : f x = .inr (9, [.ref t, .ref dr, .ref co, .ref ot, .ref dp, .ref pn, .ref ch, .ref fr, .ref nw, .ref kp, .ref tr, .ref ac, .ref se, .ref tx, .ref rf, .int 0, .int 0, .long 0])) : MtI l g yX10_weakest cX10_weakest 4 (some .int) ({ frames := 0, cells := 0, slots := 0, locals := 0 }) [.ref x] L f sz (fun r _ => r = (-2)) := by
  refine MtI.of (by decide +kernel) (Nat.le_of_ble_eq_true rfl) ?_
  intro p e s m below meth c A hEn hP hD hS ls hl
  obtain ⟨hx, hb, hr, hml, hown, hlocks, hts, hG, hA, hE, hnm⟩ := hEn
  have hown : s.vm.findClass "RulerWord" = some m.cls := hown
  have hl : lv_has ls 4 [(0, .ref x)] := hl
  refine lv_aload_n hx hb dX10_weakest_0 rfl (lv_at hl 0 rfl) ?_
  refine pl_get (v := .int 0) hx hb hts (fun w h => mT (inX10 w h)) hown hG.1 hP hm_x hf_x rfl 15 (by decide) (hts _ (mT wg_490)) (fun _ h => h) rfl dX10_weakest_1 ?_
  refine lv_if_ne (tgt := 10) hx hb dX10_weakest_4 (by decide) (fun c1 => absurd rfl c1) (fun c1 => ?_)
  refine lv_bipush (v := (-2)) hx hb dX10_weakest_7 (by decide) ?_
  exact ret_i (ty := .int) hx hb hr hlocks (rfl) hP hD hS (Nat.le_of_ble_eq_true rfl) (Nat.le_of_ble_eq_true rfl) (rfl) dX10_weakest_9

set_option maxHeartbeats 4000000 in
set_option maxRecDepth 100000 in
theorem k_X10_ruled (l : Launch) (g : GG) (L : List Nat) (f : HP) (sz : Nat) (x t dr co ot dp pn ch fr nw kp tr ac se tx rf : Nat) (i : Int32) (w : Int32) (hm_x : x ∈ L) (hf_x : f x = .inr (9, [.ref t, .ref dr, .ref co, .ref ot, .ref dp, .ref pn, .ref ch, .ref fr, .ref nw, .ref kp, .ref tr, .ref ac, .ref se, .ref tx, .ref rf, .int 0, .int 0, .long 0])) : MtI l g yX10_ruled cX10_ruled 5 (some .int) ({ frames := 1, cells := 0, slots := 0, locals := 21 }) [.ref x, .int i, .int w] L f sz (fun r _ => r = (-1)) := by
  refine MtI.of (by decide +kernel) (Nat.le_of_ble_eq_true rfl) ?_
  intro p e s m below meth c A hEn hP hD hS ls hl
  obtain ⟨hx, hb, hr, hml, hown, hlocks, hts, hG, hA, hE, hnm⟩ := hEn
  have hown : s.vm.findClass "RulerWord" = some m.cls := hown
  have hl : lv_has ls 5 [(0, .ref x), (1, .int i), (2, .int w)] := hl
  refine lv_aload_n hx hb dX10_ruled_0 rfl (lv_at hl 0 rfl) ?_
  refine lv_iload_n hx hb dX10_ruled_1 rfl (lv_at hl 1 rfl) ?_
  refine call_i (run_V (rm := { frames := 0, cells := 0, slots := 0, locals := 0 }) hx hb hml hown hts (k_X10_isPeer l g _ _ _ x t dr co ot dp pn ch fr nw kp tr ac se tx rf i hm_x hf_x) cV_X10_isPeer wg_897 ⟨Nat.le_of_ble_eq_true rfl, Nat.le_of_ble_eq_true rfl⟩ hG hE hA hP hD hS hm_x hf_x rfl rfl hl.1 (As := [.int i]) (rest := []) rfl (Nat.le_of_ble_eq_true rfl) dX10_ruled_2 ⟨Nat.le_of_ble_eq_true rfl, Nat.le_of_ble_eq_true rfl⟩) hA hD hS (fun r1 L2 f3 H locs hp4 hP hD hS => ?_)
  obtain ⟨er5a, er5b, er5⟩ : L2 = _ ∧ f3 = _ ∧ r1 = 0 := hp4
  rw [er5a, er5b] at hP hD
  subst er5
  refine lv_if_eq (tgt := 17) hx hb dX10_ruled_5 (by decide) (fun c6 => ?_) (fun c6 => absurd (by decide) c6)
  refine lv_iconst (v := (-1)) hx hb dX10_ruled_17 (by decide) ?_
  exact ret_i (ty := .int) hx hb hr hlocks (rfl) hP hD hS (Nat.le_of_ble_eq_true rfl) (Nat.le_of_ble_eq_true rfl) (rfl) dX10_ruled_18

set_option maxHeartbeats 4000000 in
set_option maxRecDepth 100000 in
theorem k_X10_held (l : Launch) (g : GG) (L : List Nat) (f : HP) (sz : Nat) (x t dr co ot dp pn ch fr nw kp tr ac se tx rf n0 n1 n2 n3 n4 n5 n6 n7 n8 : Nat) (b : Int32) (i : Int32) (hm_x : x ∈ L) (hf_x : f x = .inr (9, [.ref t, .ref dr, .ref co, .ref ot, .ref dp, .ref pn, .ref ch, .ref fr, .ref nw, .ref kp, .ref tr, .ref ac, .ref se, .ref tx, .ref rf, .int 0, .int 0, .long 0])) (hm_nw : nw ∈ L) (hf_nw : f nw = .inr (3, [.int 0, .int 0, .int 0, .int 0, .int 0, .int 0, .int 0, .long 0, .long 0, .ref n0, .ref n1, .ref n2, .ref n3, .ref n4, .ref n5, .ref n6, .ref n7, .ref n8])) : MtI l g yX10_held cX10_held 3 (some .int) ({ frames := 1, cells := 0, slots := 0, locals := 21 }) [.ref x, .int b, .int i] L f sz (fun r _ => r = (-2)) := by
  refine MtI.of (by decide +kernel) (Nat.le_of_ble_eq_true rfl) ?_
  intro p e s m below meth c A hEn hP hD hS ls hl
  obtain ⟨hx, hb, hr, hml, hown, hlocks, hts, hG, hA, hE, hnm⟩ := hEn
  have hown : s.vm.findClass "RulerWord" = some m.cls := hown
  have hl : lv_has ls 3 [(0, .ref x), (1, .int b), (2, .int i)] := hl
  refine lv_aload_n hx hb dX10_held_0 rfl (lv_at hl 0 rfl) ?_
  refine lv_aload_n hx hb dX10_held_1 rfl (lv_at hl 0 rfl) ?_
  refine pl_get (v := .ref nw) hx hb hts (fun w h => mT (inX10 w h)) hown hG.1 hP hm_x hf_x rfl 8 (by decide) (hts _ (mT wg_483)) (fun _ h => h) rfl dX10_held_2 ?_
  refine pl_getN (v := .int 0) hx hb hts (fun w h => mT (inX3 w h)) hown hG.1 hP hm_nw hf_nw rfl 1 (by decide) (hG.2.1 _ wn_339) (fun _ h => h) rfl dX10_held_5 ?_
  refine call_i (run_V (rm := { frames := 0, cells := 0, slots := 0, locals := 0 }) hx hb hml hown hts (k_X10_isAsked l g _ _ _ x t dr co ot dp pn ch fr nw kp tr ac se tx rf 0 hm_x hf_x) cV_X10_isAsked wg_1032 ⟨Nat.le_of_ble_eq_true rfl, Nat.le_of_ble_eq_true rfl⟩ hG hE hA hP hD hS hm_x hf_x rfl rfl hl.1 (As := [.int 0]) (rest := []) rfl (Nat.le_of_ble_eq_true rfl) dX10_held_8 ⟨Nat.le_of_ble_eq_true rfl, Nat.le_of_ble_eq_true rfl⟩) hA hD hS (fun r1 L2 f3 H locs hp4 hP hD hS => ?_)
  obtain ⟨er5a, er5b, er5⟩ : L2 = _ ∧ f3 = _ ∧ r1 = 0 := hp4
  rw [er5a, er5b] at hP hD
  subst er5
  refine lv_if_ne (tgt := 17) hx hb dX10_held_11 (by decide) (fun c6 => absurd rfl c6) (fun c6 => ?_)
  refine lv_bipush (v := (-2)) hx hb dX10_held_14 (by decide) ?_
  exact ret_i (ty := .int) hx hb hr hlocks (rfl) hP hD hS (Nat.le_of_ble_eq_true rfl) (Nat.le_of_ble_eq_true rfl) (rfl) dX10_held_16

set_option maxHeartbeats 4000000 in
set_option maxRecDepth 100000 in
theorem k_X10_needed (l : Launch) (g : GG) (L : List Nat) (f : HP) (sz : Nat) (x t dr co ot dp pn ch fr nw kp tr ac se tx rf : Nat) (hm_x : x ∈ L) (hf_x : f x = .inr (9, [.ref t, .ref dr, .ref co, .ref ot, .ref dp, .ref pn, .ref ch, .ref fr, .ref nw, .ref kp, .ref tr, .ref ac, .ref se, .ref tx, .ref rf, .int 0, .int 0, .long 0])) : MtI l g yX10_needed cX10_needed 2 (some .int) ({ frames := 0, cells := 0, slots := 0, locals := 0 }) [.ref x] L f sz (fun r _ => r = (-1)) := by
  refine MtI.of (by decide +kernel) (Nat.le_of_ble_eq_true rfl) ?_
  intro p e s m below meth c A hEn hP hD hS ls hl
  obtain ⟨hx, hb, hr, hml, hown, hlocks, hts, hG, hA, hE, hnm⟩ := hEn
  have hown : s.vm.findClass "RulerWord" = some m.cls := hown
  have hl : lv_has ls 2 [(0, .ref x)] := hl
  refine lv_iconst (v := 1) hx hb dX10_needed_0 (by decide) ?_
  refine lv_istore_n (lv' := [(1, .int 1), (0, .ref x)]) hx hb dX10_needed_1 rfl hl (by decide) rfl (fun ls hl => ?_)
  refine lv_aload_n hx hb dX10_needed_2 rfl (lv_at hl 1 rfl) ?_
  refine pl_get (v := .int 0) hx hb hts (fun w h => mT (inX10 w h)) hown hG.1 hP hm_x hf_x rfl 15 (by decide) (hts _ (mT wg_490)) (fun _ h => h) rfl dX10_needed_3 ?_
  refine lv_if_eq (tgt := 81) hx hb dX10_needed_6 (by decide) (fun c1 => ?_) (fun c1 => absurd (by decide) c1)
  refine lv_iconst (v := (-1)) hx hb dX10_needed_81 (by decide) ?_
  exact ret_i (ty := .int) hx hb hr hlocks (rfl) hP hD hS (Nat.le_of_ble_eq_true rfl) (Nat.le_of_ble_eq_true rfl) (rfl) dX10_needed_82

set_option maxHeartbeats 4000000 in
set_option maxRecDepth 100000 in
theorem k_X10_asOthers (l : Launch) (g : GG) (L : List Nat) (f : HP) (sz : Nat) (x t dr co ot dp pn ch fr nw kp tr ac se tx rf : Nat) (w : Int32) (hm_x : x ∈ L) (hf_x : f x = .inr (9, [.ref t, .ref dr, .ref co, .ref ot, .ref dp, .ref pn, .ref ch, .ref fr, .ref nw, .ref kp, .ref tr, .ref ac, .ref se, .ref tx, .ref rf, .int 0, .int 0, .long 0])) : MtI l g yX10_asOthers cX10_asOthers 2 (some .int) ({ frames := 0, cells := 0, slots := 0, locals := 0 }) [.ref x, .int w] L f sz (fun r _ => r = (-2)) := by
  refine MtI.of (by decide +kernel) (Nat.le_of_ble_eq_true rfl) ?_
  intro p e s m below meth c A hEn hP hD hS ls hl
  obtain ⟨hx, hb, hr, hml, hown, hlocks, hts, hG, hA, hE, hnm⟩ := hEn
  have hown : s.vm.findClass "RulerWord" = some m.cls := hown
  have hl : lv_has ls 2 [(0, .ref x), (1, .int w)] := hl
  refine lv_aload_n hx hb dX10_asOthers_0 rfl (lv_at hl 0 rfl) ?_
  refine pl_get (v := .int 0) hx hb hts (fun w h => mT (inX10 w h)) hown hG.1 hP hm_x hf_x rfl 15 (by decide) (hts _ (mT wg_490)) (fun _ h => h) rfl dX10_asOthers_1 ?_
  refine lv_if_eq (tgt := 16) hx hb dX10_asOthers_4 (by decide) (fun c1 => ?_) (fun c1 => absurd (by decide) c1)
  refine lv_bipush (v := (-2)) hx hb dX10_asOthers_16 (by decide) ?_
  exact ret_i (ty := .int) hx hb hr hlocks (rfl) hP hD hS (Nat.le_of_ble_eq_true rfl) (Nat.le_of_ble_eq_true rfl) (rfl) dX10_asOthers_18

set_option maxHeartbeats 4000000 in
set_option maxRecDepth 100000 in
theorem k_X10_byChance (l : Launch) (g : GG) (L : List Nat) (f : HP) (sz : Nat) (x t dr co ot dp pn ch fr nw kp tr ac se tx rf : Nat) (w : Int32) (s0 : Int64) (h0 : Int32) (hm_x : x ∈ L) (hf_x : f x = .inr (9, [.ref t, .ref dr, .ref co, .ref ot, .ref dp, .ref pn, .ref ch, .ref fr, .ref nw, .ref kp, .ref tr, .ref ac, .ref se, .ref tx, .ref rf, .int 0, .int 0, .long 0])) : MtI l g yX10_byChance cX10_byChance 10 (some .int) ({ frames := 0, cells := 0, slots := 0, locals := 0 }) [.ref x, .int w, .long s0, .int h0] L f sz (fun r _ => r = (-2)) := by
  refine MtI.of (by decide +kernel) (Nat.le_of_ble_eq_true rfl) ?_
  intro p e s m below meth c A hEn hP hD hS ls hl
  obtain ⟨hx, hb, hr, hml, hown, hlocks, hts, hG, hA, hE, hnm⟩ := hEn
  have hown : s.vm.findClass "RulerWord" = some m.cls := hown
  have hl : lv_has ls 10 [(0, .ref x), (1, .int w), (2, .long s0), (4, .int h0)] := hl
  refine lv_aload_n hx hb dX10_byChance_0 rfl (lv_at hl 0 rfl) ?_
  refine pl_get (v := .int 0) hx hb hts (fun w h => mT (inX10 w h)) hown hG.1 hP hm_x hf_x rfl 15 (by decide) (hts _ (mT wg_490)) (fun _ h => h) rfl dX10_byChance_1 ?_
  refine lv_if_eq (tgt := 30) hx hb dX10_byChance_4 (by decide) (fun c1 => ?_) (fun c1 => absurd (by decide) c1)
  refine lv_bipush (v := (-2)) hx hb dX10_byChance_30 (by decide) ?_
  exact ret_i (ty := .int) hx hb hr hlocks (rfl) hP hD hS (Nat.le_of_ble_eq_true rfl) (Nat.le_of_ble_eq_true rfl) (rfl) dX10_byChance_32

set_option maxHeartbeats 4000000 in
set_option maxRecDepth 100000 in
theorem k_X10_shown (l : Launch) (g : GG) (L : List Nat) (f : HP) (sz : Nat) (x t dr co ot dp pn ch fr nw kp tr ac se tx rf : Nat) (p0 : Int32) (k : Int32) (hm_x : x ∈ L) (hf_x : f x = .inr (9, [.ref t, .ref dr, .ref co, .ref ot, .ref dp, .ref pn, .ref ch, .ref fr, .ref nw, .ref kp, .ref tr, .ref ac, .ref se, .ref tx, .ref rf, .int 0, .int 0, .long 0])) : MtI l g yX10_shown cX10_shown 5 (some .int) ({ frames := 2, cells := 0, slots := 0, locals := 41 }) [.ref x, .int p0, .int k] L f sz (fun r _ => r = (-1)) := by
  refine MtI.of (by decide +kernel) (Nat.le_of_ble_eq_true rfl) ?_
  intro p e s m below meth c A hEn hP hD hS ls hl
  obtain ⟨hx, hb, hr, hml, hown, hlocks, hts, hG, hA, hE, hnm⟩ := hEn
  have hown : s.vm.findClass "RulerWord" = some m.cls := hown
  have hl : lv_has ls 5 [(0, .ref x), (1, .int p0), (2, .int k)] := hl
  refine lv_aload_n hx hb dX10_shown_0 rfl (lv_at hl 0 rfl) ?_
  refine lv_iload_n hx hb dX10_shown_1 rfl (lv_at hl 1 rfl) ?_
  refine call_i (run_V (rm := { frames := 1, cells := 0, slots := 0, locals := 20 }) hx hb hml hown hts (k_X10_isOver l g _ _ _ x t dr co ot dp pn ch fr nw kp tr ac se tx rf p0 hm_x hf_x) cV_X10_isOver wg_952 ⟨Nat.le_of_ble_eq_true rfl, Nat.le_of_ble_eq_true rfl⟩ hG hE hA hP hD hS hm_x hf_x rfl rfl hl.1 (As := [.int p0]) (rest := []) rfl (Nat.le_of_ble_eq_true rfl) dX10_shown_2 ⟨Nat.le_of_ble_eq_true rfl, Nat.le_of_ble_eq_true rfl⟩) hA hD hS (fun r1 L2 f3 H locs hp4 hP hD hS => ?_)
  obtain ⟨er5a, er5b, er5⟩ : L2 = _ ∧ f3 = _ ∧ r1 = 0 := hp4
  rw [er5a, er5b] at hP hD
  subst er5
  refine lv_if_ne (tgt := 10) hx hb dX10_shown_5 (by decide) (fun c6 => absurd rfl c6) (fun c6 => ?_)
  refine lv_iconst (v := (-1)) hx hb dX10_shown_8 (by decide) ?_
  exact ret_i (ty := .int) hx hb hr hlocks (rfl) hP hD hS (Nat.le_of_ble_eq_true rfl) (Nat.le_of_ble_eq_true rfl) (rfl) dX10_shown_9

set_option maxHeartbeats 4000000 in
set_option maxRecDepth 100000 in
theorem k_X10_undo (l : Launch) (g : GG) (L : List Nat) (f : HP) (sz : Nat) (x t dr co ot dp pn ch fr nw kp tr ac se tx rf ah : Nat) (hm_x : x ∈ L) (hf_x : f x = .inr (9, [.ref t, .ref dr, .ref co, .ref ot, .ref dp, .ref pn, .ref ch, .ref fr, .ref nw, .ref kp, .ref tr, .ref ac, .ref se, .ref tx, .ref rf, .int 0, .int 0, .long 0])) (hm_ac : ac ∈ L) (hf_ac : f ac = .inr (0, [.ref ah, .int 0, .int 0])) : MtI l g yX10_undo cX10_undo 1 (some .int) ({ frames := 1, cells := 0, slots := 0, locals := 21 }) [.ref x] L f sz (fun r _ => r = (-1)) := by
  refine MtI.of (by decide +kernel) (Nat.le_of_ble_eq_true rfl) ?_
  intro p e s m below meth c A hEn hP hD hS ls hl
  obtain ⟨hx, hb, hr, hml, hown, hlocks, hts, hG, hA, hE, hnm⟩ := hEn
  have hown : s.vm.findClass "RulerWord" = some m.cls := hown
  have hl : lv_has ls 1 [(0, .ref x)] := hl
  refine lv_aload_n hx hb dX10_undo_0 rfl (lv_at hl 0 rfl) ?_
  refine pl_get (v := .ref ac) hx hb hts (fun w h => mT (inX10 w h)) hown hG.1 hP hm_x hf_x rfl 11 (by decide) (hts _ (mT wg_486)) (fun _ h => h) rfl dX10_undo_1 ?_
  refine lv_aload_n hx hb dX10_undo_4 rfl (lv_at hl 0 rfl) ?_
  refine pl_get (v := .ref nw) hx hb hts (fun w h => mT (inX10 w h)) hown hG.1 hP hm_x hf_x rfl 8 (by decide) (hts _ (mT wg_483)) (fun _ h => h) rfl dX10_undo_5 ?_
  refine call_i (run_VN (rm := { frames := 0, cells := 0, slots := 0, locals := 0 }) hx hb hml hown hts (k_X0_takeBack l g _ _ _ ac ah nw hm_ac hf_ac) cV_X0_takeBack wn_1210 ⟨Nat.le_of_ble_eq_true rfl, Nat.le_of_ble_eq_true rfl⟩ hG hE hA hP hD hS hm_ac hf_ac rfl rfl hl.1 (As := [.ref nw]) (rest := []) rfl (Nat.le_of_ble_eq_true rfl) dX10_undo_8 ⟨Nat.le_of_ble_eq_true rfl, Nat.le_of_ble_eq_true rfl⟩) hA hD hS (fun r1 L2 f3 H locs hp4 hP hD hS => ?_)
  obtain ⟨er5a, er5b, er5⟩ : L2 = _ ∧ f3 = _ ∧ r1 = 0 := hp4
  rw [er5a, er5b] at hP hD
  subst er5
  refine lv_if_eq (tgt := 24) hx hb dX10_undo_11 (by decide) (fun c6 => ?_) (fun c6 => absurd (by decide) c6)
  refine lv_iconst (v := (-1)) hx hb dX10_undo_24 (by decide) ?_
  exact ret_i (ty := .int) hx hb hr hlocks (rfl) hP hD hS (Nat.le_of_ble_eq_true rfl) (Nat.le_of_ble_eq_true rfl) (rfl) dX10_undo_25

set_option maxHeartbeats 4000000 in
set_option maxRecDepth 100000 in
theorem k_X10_image (l : Launch) (g : GG) (L : List Nat) (f : HP) (sz : Nat) (x t dr co ot dp pn ch fr nw kp tr ac se tx rf : Nat) (hm_x : x ∈ L) (hf_x : f x = .inr (9, [.ref t, .ref dr, .ref co, .ref ot, .ref dp, .ref pn, .ref ch, .ref fr, .ref nw, .ref kp, .ref tr, .ref ac, .ref se, .ref tx, .ref rf, .int 0, .int 0, .long 0])) : MtI l g yX10_image cX10_image 1 (some .int) ({ frames := 0, cells := 0, slots := 0, locals := 0 }) [.ref x] L f sz (fun r _ => r = (-1)) := by
  refine MtI.of (by decide +kernel) (Nat.le_of_ble_eq_true rfl) ?_
  intro p e s m below meth c A hEn hP hD hS ls hl
  obtain ⟨hx, hb, hr, hml, hown, hlocks, hts, hG, hA, hE, hnm⟩ := hEn
  have hown : s.vm.findClass "RulerWord" = some m.cls := hown
  have hl : lv_has ls 1 [(0, .ref x)] := hl
  refine lv_aload_n hx hb dX10_image_0 rfl (lv_at hl 0 rfl) ?_
  refine pl_get (v := .int 0) hx hb hts (fun w h => mT (inX10 w h)) hown hG.1 hP hm_x hf_x rfl 15 (by decide) (hts _ (mT wg_490)) (fun _ h => h) rfl dX10_image_1 ?_
  refine lv_if_ne (tgt := 9) hx hb dX10_image_4 (by decide) (fun c1 => absurd rfl c1) (fun c1 => ?_)
  refine lv_iconst (v := (-1)) hx hb dX10_image_7 (by decide) ?_
  exact ret_i (ty := .int) hx hb hr hlocks (rfl) hP hD hS (Nat.le_of_ble_eq_true rfl) (Nat.le_of_ble_eq_true rfl) (rfl) dX10_image_8

set_option maxHeartbeats 4000000 in
set_option maxRecDepth 100000 in
theorem k_X10_back (l : Launch) (g : GG) (L : List Nat) (f : HP) (sz : Nat) (x t dr co ot dp pn ch fr nw kp tr ac se tx rf : Nat) (hm_x : x ∈ L) (hf_x : f x = .inr (9, [.ref t, .ref dr, .ref co, .ref ot, .ref dp, .ref pn, .ref ch, .ref fr, .ref nw, .ref kp, .ref tr, .ref ac, .ref se, .ref tx, .ref rf, .int 0, .int 0, .long 0])) : MtI l g yX10_back cX10_back 1 (some .int) ({ frames := 0, cells := 0, slots := 0, locals := 0 }) [.ref x] L f sz (fun r _ => r = (-1)) := by
  refine MtI.of (by decide +kernel) (Nat.le_of_ble_eq_true rfl) ?_
  intro p e s m below meth c A hEn hP hD hS ls hl
  obtain ⟨hx, hb, hr, hml, hown, hlocks, hts, hG, hA, hE, hnm⟩ := hEn
  have hown : s.vm.findClass "RulerWord" = some m.cls := hown
  have hl : lv_has ls 1 [(0, .ref x)] := hl
  refine lv_aload_n hx hb dX10_back_0 rfl (lv_at hl 0 rfl) ?_
  refine pl_get (v := .int 0) hx hb hts (fun w h => mT (inX10 w h)) hown hG.1 hP hm_x hf_x rfl 16 (by decide) (hts _ (mT wg_491)) (fun _ h => h) rfl dX10_back_1 ?_
  refine lv_if_ne (tgt := 9) hx hb dX10_back_4 (by decide) (fun c1 => absurd rfl c1) (fun c1 => ?_)
  refine lv_iconst (v := (-1)) hx hb dX10_back_7 (by decide) ?_
  exact ret_i (ty := .int) hx hb hr hlocks (rfl) hP hD hS (Nat.le_of_ble_eq_true rfl) (Nat.le_of_ble_eq_true rfl) (rfl) dX10_back_8

set_option maxHeartbeats 4000000 in
set_option maxRecDepth 100000 in
theorem k_X10_status (l : Launch) (g : GG) (L : List Nat) (f : HP) (sz : Nat) (x t dr co ot dp pn ch fr nw kp tr ac se tx rf : Nat) (w : Int32) (hm_x : x ∈ L) (hf_x : f x = .inr (9, [.ref t, .ref dr, .ref co, .ref ot, .ref dp, .ref pn, .ref ch, .ref fr, .ref nw, .ref kp, .ref tr, .ref ac, .ref se, .ref tx, .ref rf, .int 0, .int 0, .long 0])) (hm_rf : rf ∈ L) (hf_rf : f rf = .inl (g.2.1 0, 5, .inl (fun _ => 0))) : MtI l g yX10_status cX10_status 2 (some .int) ({ frames := 0, cells := 0, slots := 0, locals := 0 }) [.ref x, .int w] L f sz (fun r _ => r = statV w) := by
  refine MtI.of (by decide +kernel) (Nat.le_of_ble_eq_true rfl) ?_
  intro p e s m below meth c A hEn hP hD hS ls hl
  obtain ⟨hx, hb, hr, hml, hown, hlocks, hts, hG, hA, hE, hnm⟩ := hEn
  have hown : s.vm.findClass "RulerWord" = some m.cls := hown
  have hl : lv_has ls 2 [(0, .ref x), (1, .int w)] := hl
  refine lv_iload_n hx hb dX10_status_0 rfl (lv_at hl 1 rfl) ?_
  refine lv_if_lt (tgt := 13) hx hb dX10_status_1 (by decide) (fun c1 => ?_) (fun c1 => ?_)
  ·
    refine lv_iconst (v := (-1)) hx hb dX10_status_13 (by decide) ?_
    refine lv_goto (tgt := 23) hx hb dX10_status_14 (by decide) ?_
    exact ret_i (ty := .int) hx hb hr hlocks (rfl) hP hD hS (Nat.le_of_ble_eq_true rfl) (Nat.le_of_ble_eq_true rfl) (by simp [statV, c1]) dX10_status_23
  ·
    refine lv_iload_n hx hb dX10_status_4 rfl (lv_at hl 1 rfl) ?_
    refine lv_aload_n hx hb dX10_status_5 rfl (lv_at hl 0 rfl) ?_
    refine pl_get (v := .ref rf) hx hb hts (fun w h => mT (inX10 w h)) hown hG.1 hP hm_x hf_x rfl 14 (by decide) (hts _ (mT wg_489)) (fun _ h => h) rfl dX10_status_6 ?_
    refine pl_alen (v := 5) hx hb hG.1 hP hm_rf 0 hf_rf rfl (by decide) dX10_status_9 ?_
    refine lv_icmp_lt (tgt := 17) hx hb dX10_status_10 (by decide) (fun c2 => ?_) (fun c2 => ?_)
    ·
      refine lv_aload_n hx hb dX10_status_17 rfl (lv_at hl 0 rfl) ?_
      refine pl_get (v := .ref rf) hx hb hts (fun w h => mT (inX10 w h)) hown hG.1 hP hm_x hf_x rfl 14 (by decide) (hts _ (mT wg_489)) (fun _ h => h) rfl dX10_status_18 ?_
      refine lv_iload_n hx hb dX10_status_21 rfl (lv_at hl 1 rfl) ?_
      refine pl_iald hx hb hG.1 hP hm_rf 0 hf_rf rfl (in_of2 (k := 5) (by decide) c1 c2) dX10_status_22 ?_
      refine lv_topi (fun x3 ex3 => ?_)
      obtain rfl : x3 = 0 := ex3.trans (rfl)
      exact ret_i (ty := .int) hx hb hr hlocks (rfl) hP hD hS (Nat.le_of_ble_eq_true rfl) (Nat.le_of_ble_eq_true rfl) (by simp [statV, c1, c2]) dX10_status_23
    ·
      refine lv_iconst (v := (-1)) hx hb dX10_status_13 (by decide) ?_
      refine lv_goto (tgt := 23) hx hb dX10_status_14 (by decide) ?_
      exact ret_i (ty := .int) hx hb hr hlocks (rfl) hP hD hS (Nat.le_of_ble_eq_true rfl) (Nat.le_of_ble_eq_true rfl) (by simp [statV, c1, c2]) dX10_status_23

set_option maxHeartbeats 4000000 in
set_option maxRecDepth 100000 in
theorem k_X10_most (l : Launch) (g : GG) (L : List Nat) (f : HP) (sz : Nat) (x t dr co ot dp pn ch fr nw kp tr ac se tx rf : Nat) (w : Int32) (hm_x : x ∈ L) (hf_x : f x = .inr (9, [.ref t, .ref dr, .ref co, .ref ot, .ref dp, .ref pn, .ref ch, .ref fr, .ref nw, .ref kp, .ref tr, .ref ac, .ref se, .ref tx, .ref rf, .int 0, .int 0, .long 0])) : MtI l g yX10_most cX10_most 2 (some .int) ({ frames := 0, cells := 0, slots := 0, locals := 0 }) [.ref x, .int w] L f sz (fun r _ => r = (-1)) := by
  refine MtI.of (by decide +kernel) (Nat.le_of_ble_eq_true rfl) ?_
  intro p e s m below meth c A hEn hP hD hS ls hl
  obtain ⟨hx, hb, hr, hml, hown, hlocks, hts, hG, hA, hE, hnm⟩ := hEn
  have hown : s.vm.findClass "RulerWord" = some m.cls := hown
  have hl : lv_has ls 2 [(0, .ref x), (1, .int w)] := hl
  refine lv_aload_n hx hb dX10_most_0 rfl (lv_at hl 0 rfl) ?_
  refine pl_get (v := .int 0) hx hb hts (fun w h => mT (inX10 w h)) hown hG.1 hP hm_x hf_x rfl 15 (by decide) (hts _ (mT wg_490)) (fun _ h => h) rfl dX10_most_1 ?_
  refine lv_if_ne (tgt := 9) hx hb dX10_most_4 (by decide) (fun c1 => absurd rfl c1) (fun c1 => ?_)
  refine lv_iconst (v := (-1)) hx hb dX10_most_7 (by decide) ?_
  exact ret_i (ty := .int) hx hb hr hlocks (rfl) hP hD hS (Nat.le_of_ble_eq_true rfl) (Nat.le_of_ble_eq_true rfl) (rfl) dX10_most_8

set_option maxHeartbeats 4000000 in
set_option maxRecDepth 100000 in
theorem k_X10_count (l : Launch) (g : GG) (L : List Nat) (f : HP) (sz : Nat) (x t dr co ot dp pn ch fr nw kp tr ac se tx rf tb ah n0 n1 n2 n3 n4 n5 n6 n7 n8 : Nat) (w : Int32) (hm_x : x ∈ L) (hf_x : f x = .inr (9, [.ref t, .ref dr, .ref co, .ref ot, .ref dp, .ref pn, .ref ch, .ref fr, .ref nw, .ref kp, .ref tr, .ref ac, .ref se, .ref tx, .ref rf, .int 0, .int 0, .long 0])) (hm_t : t ∈ L) (hf_t : f t = .inr (8, [.ref tb, .int 0, .int 0, .int 0, .int 0])) (hm_ac : ac ∈ L) (hf_ac : f ac = .inr (0, [.ref ah, .int 0, .int 0])) (hm_nw : nw ∈ L) (hf_nw : f nw = .inr (3, [.int 0, .int 0, .int 0, .int 0, .int 0, .int 0, .int 0, .long 0, .long 0, .ref n0, .ref n1, .ref n2, .ref n3, .ref n4, .ref n5, .ref n6, .ref n7, .ref n8])) : MtI l g yX10_count cX10_count 2 (some .int) ({ frames := 0, cells := 0, slots := 0, locals := 0 }) [.ref x, .int w] L f sz (fun r _ => r = cntV w) := by
  refine MtI.of (by decide +kernel) (Nat.le_of_ble_eq_true rfl) ?_
  intro p e s m below meth c A hEn hP hD hS ls hl
  obtain ⟨hx, hb, hr, hml, hown, hlocks, hts, hG, hA, hE, hnm⟩ := hEn
  have hown : s.vm.findClass "RulerWord" = some m.cls := hown
  have hl : lv_has ls 2 [(0, .ref x), (1, .int w)] := hl
  refine lv_iload_n hx hb dX10_count_0 rfl (lv_at hl 1 rfl) ?_
  by_cases c1 : w = 0
  ·
    subst c1
    refine lv_tableIn (off := 27) (tgt := 28) hx hb dX10_count_1 (by decide) (by decide) (by decide) (by decide) ?_
    refine lv_aload_n hx hb dX10_count_28 rfl (lv_at hl 0 rfl) ?_
    refine pl_get (v := .ref t) hx hb hts (fun w h => mT (inX10 w h)) hown hG.1 hP hm_x hf_x rfl 0 (by decide) (hts _ (mT wg_475)) (fun _ h => h) rfl dX10_count_29 ?_
    refine pl_getN (v := .int 0) hx hb hts (fun w h => mT (inX8 w h)) hown hG.1 hP hm_t hf_t rfl 1 (by decide) (hG.2.1 _ wn_197) (fun _ h => h) rfl dX10_count_32 ?_
    exact ret_i (ty := .int) hx hb hr hlocks (rfl) hP hD hS (Nat.le_of_ble_eq_true rfl) (Nat.le_of_ble_eq_true rfl) (by simp [cntV]) dX10_count_35
  by_cases c2 : w = 1
  ·
    subst c2
    refine lv_tableIn (off := 35) (tgt := 36) hx hb dX10_count_1 (by decide) (by decide) (by decide) (by decide) ?_
    refine lv_aload_n hx hb dX10_count_36 rfl (lv_at hl 0 rfl) ?_
    refine pl_get (v := .ref ac) hx hb hts (fun w h => mT (inX10 w h)) hown hG.1 hP hm_x hf_x rfl 11 (by decide) (hts _ (mT wg_486)) (fun _ h => h) rfl dX10_count_37 ?_
    refine pl_getN (v := .int 0) hx hb hts (fun w h => mT (inX0 w h)) hown hG.1 hP hm_ac hf_ac rfl 2 (by decide) (hG.2.1 _ wn_416) (fun _ h => h) rfl dX10_count_40 ?_
    exact ret_i (ty := .int) hx hb hr hlocks (rfl) hP hD hS (Nat.le_of_ble_eq_true rfl) (Nat.le_of_ble_eq_true rfl) (by simp [cntV]) dX10_count_43
  by_cases c3 : w = 2
  ·
    subst c3
    refine lv_tableIn (off := 43) (tgt := 44) hx hb dX10_count_1 (by decide) (by decide) (by decide) (by decide) ?_
    refine lv_aload_n hx hb dX10_count_44 rfl (lv_at hl 0 rfl) ?_
    refine pl_get (v := .ref nw) hx hb hts (fun w h => mT (inX10 w h)) hown hG.1 hP hm_x hf_x rfl 8 (by decide) (hts _ (mT wg_483)) (fun _ h => h) rfl dX10_count_45 ?_
    refine pl_getN (v := .int 0) hx hb hts (fun w h => mT (inX3 w h)) hown hG.1 hP hm_nw hf_nw rfl 2 (by decide) (hG.2.1 _ wn_341) (fun _ h => h) rfl dX10_count_48 ?_
    exact ret_i (ty := .int) hx hb hr hlocks (rfl) hP hD hS (Nat.le_of_ble_eq_true rfl) (Nat.le_of_ble_eq_true rfl) (by simp [cntV]) dX10_count_51
  refine lv_tableOut (tgt := 52) hx hb dX10_count_1 (tb_out (by decide) (by decide) (fun k h1 h2 => ?_)) (by decide) ?_
  · rcases (show k = 0 ∨ k = 1 ∨ k = 2 by omega) with rfl | rfl | rfl
    · exact fun e => c1 (e.trans (by decide))
    · exact fun e => c2 (e.trans (by decide))
    · exact fun e => c3 (e.trans (by decide))
  ·
    refine lv_iconst (v := (-1)) hx hb dX10_count_52 (by decide) ?_
    exact ret_i (ty := .int) hx hb hr hlocks (rfl) hP hD hS (Nat.le_of_ble_eq_true rfl) (Nat.le_of_ble_eq_true rfl) (by simp [cntV, c1, c2, c3]) dX10_count_53
end
section
set_option maxHeartbeats 4000000 in
set_option maxRecDepth 100000 in
theorem k_X8_nextPart (l : Launch) (g : GG) (L : List Nat) (f : HP) (sz : Nat) (t tb : Nat) (z2 : Int32) (z4 : Int32) (hm_t : t ∈ L) (hf_t : f t = .inr (8, [.ref tb, .int 0, .int z2, .int 0, .int z4])) : MtV l g yX8_nextPart cX8_nextPart 3 ({ frames := 0, cells := 0, slots := 0, locals := 0 }) [.ref t] L f sz (fun u => u.2 t = .inr (8, [.ref tb, .int 0, .int 0, .int 0, .int 0]) ∧ (∀ b, b ∈ L → b ≠ t → u.2 b = f b) ∧ (∀ b, b ∈ L → b ∈ u.1)) := by
  refine MtV.of (by decide +kernel) (Nat.le_of_ble_eq_true rfl) ?_
  intro p e s m below meth c A hEn hP hD hS ls hl
  obtain ⟨hx, hb, hr, hml, hown, hlocks, hts, hG, hA, hE, hnm⟩ := hEn
  have hown : s.vm.findClass "RulerWord$Tape" = some m.cls := hown
  have hl : lv_has ls 3 [(0, .ref t)] := hl
  have hfr0 : ∀ b, b ∈ L → b ≠ t → f b = f b := fun b hb z0 => rfl
  have hsb0 : ∀ b, b ∈ L → b ∈ L := fun b hb => hb
  refine lv_aload_n hx hb dX8_nextPart_0 rfl (lv_at hl 0 rfl) ?_
  refine pl_get (v := .int 0) hx hb hts (fun w h => mT (inX8 w h)) hown hG.1 hP hm_t hf_t rfl 3 (by decide) (hts _ (mT wg_202)) (fun _ h => h) rfl dX8_nextPart_1 ?_
  refine lv_istore_n (lv' := [(1, .int 0), (0, .ref t)]) hx hb dX8_nextPart_4 rfl hl (by decide) rfl (fun ls hl => ?_)
  refine lv_iload_n hx hb dX8_nextPart_5 rfl (lv_at hl 0 rfl) ?_
  refine lv_aload_n hx hb dX8_nextPart_6 rfl (lv_at hl 1 rfl) ?_
  refine pl_get (v := .int 0) hx hb hts (fun w h => mT (inX8 w h)) hown hG.1 hP hm_t hf_t rfl 1 (by decide) (hts _ (mT wg_198)) (fun _ h => h) rfl dX8_nextPart_7 ?_
  refine lv_icmp_ge (tgt := 30) hx hb dX8_nextPart_10 (by decide) (fun c1 => ?_) (fun c1 => absurd (by decide) c1)
  refine lv_aload_n hx hb dX8_nextPart_30 rfl (lv_at hl 1 rfl) ?_
  refine lv_iload_n hx hb dX8_nextPart_31 rfl (lv_at hl 0 rfl) ?_
  refine pl_put (ty := .int) (v := .int 0) (fs' := [.ref tb, .int 0, .int 0, .int 0, .int z4]) hx hb hts (fun w h => mT (inX8 w h)) tyX8 tyX8_ok nmX8 hown hG.1 hP hD hS hm_t hf_t rfl 2 (by decide) (hts _ (mT wg_201)) (fun _ h => h) rfl (by decide +kernel) (rfl) (rfl) (Nat.le_of_ble_eq_true rfl) rfl dX8_nextPart_32 (fun H locs f2 hf4 ho3 hP hD hS => ?_)
  have hfr5 : ∀ b, b ∈ L → b ≠ t → f2 b = f b := fun b hb z0 => (ho3 b z0).trans (hfr0 b hb z0)
  refine lv_aload_n hx hb dX8_nextPart_35 rfl (lv_at hl 1 rfl) ?_
  refine lv_iconst (v := 0) hx hb dX8_nextPart_36 (by decide) ?_
  refine pl_put (ty := .int) (v := .int 0) (fs' := [.ref tb, .int 0, .int 0, .int 0, .int 0]) hx hb hts (fun w h => mT (inX8 w h)) tyX8 tyX8_ok nmX8 hown hG.1 hP hD hS hm_t hf4 rfl 4 (by decide) (hts _ (mT wg_205)) (fun _ h => h) rfl (by decide +kernel) (rfl) (rfl) (Nat.le_of_ble_eq_true rfl) rfl dX8_nextPart_37 (fun H locs f6 hf8 ho7 hP hD hS => ?_)
  have hfr9 : ∀ b, b ∈ L → b ≠ t → f6 b = f b := fun b hb z0 => (ho7 b z0).trans (hfr5 b hb z0)
  refine lv_iload_n hx hb dX8_nextPart_40 rfl (lv_at hl 0 rfl) ?_
  refine lv_aload_n hx hb dX8_nextPart_41 rfl (lv_at hl 1 rfl) ?_
  refine pl_get (v := .int 0) hx hb hts (fun w h => mT (inX8 w h)) hown hG.1 hP hm_t hf8 rfl 1 (by decide) (hts _ (mT wg_198)) (fun _ h => h) rfl dX8_nextPart_42 ?_
  refine lv_icmp_ge (tgt := 64) hx hb dX8_nextPart_45 (by decide) (fun c10 => ?_) (fun c10 => absurd (by decide) c10)
  refine lv_aload_n hx hb dX8_nextPart_64 rfl (lv_at hl 1 rfl) ?_
  refine pl_get (v := .int 0) hx hb hts (fun w h => mT (inX8 w h)) hown hG.1 hP hm_t hf8 rfl 4 (by decide) (hts _ (mT wg_205)) (fun _ h => h) rfl dX8_nextPart_65 ?_
  refine lv_iconst (v := 2) hx hb dX8_nextPart_68 (by decide) ?_
  refine lv_icmp_eq (tgt := 80) hx hb dX8_nextPart_69 (by decide) (fun c11 => absurd c11 (by decide)) (fun c11 => ?_)
  refine lv_aload_n hx hb dX8_nextPart_72 rfl (lv_at hl 1 rfl) ?_
  refine pl_get (v := .int 0) hx hb hts (fun w h => mT (inX8 w h)) hown hG.1 hP hm_t hf8 rfl 4 (by decide) (hts _ (mT wg_205)) (fun _ h => h) rfl dX8_nextPart_73 ?_
  refine lv_iconst (v := 3) hx hb dX8_nextPart_76 (by decide) ?_
  refine lv_icmp_ne (tgt := 84) hx hb dX8_nextPart_77 (by decide) (fun c12 => ?_) (fun c12 => absurd c12 (by decide))
  refine lv_iconst (v := 0) hx hb dX8_nextPart_84 (by decide) ?_
  refine lv_istore_n (lv' := [(2, .int 0), (1, .int 0), (0, .ref t)]) hx hb dX8_nextPart_85 rfl hl (by decide) rfl (fun ls hl => ?_)
  refine lv_iload_n hx hb dX8_nextPart_86 rfl (lv_at hl 0 rfl) ?_
  refine lv_if_eq (tgt := 120) hx hb dX8_nextPart_87 (by decide) (fun c13 => ?_) (fun c13 => absurd (by decide) c13)
  refine lv_aload_n hx hb dX8_nextPart_120 rfl (lv_at hl 2 rfl) ?_
  refine lv_iload_n hx hb dX8_nextPart_121 rfl (lv_at hl 1 rfl) ?_
  refine pl_put (ty := .int) (v := .int 0) (fs' := [.ref tb, .int 0, .int 0, .int 0, .int 0]) hx hb hts (fun w h => mT (inX8 w h)) tyX8 tyX8_ok nmX8 hown hG.1 hP hD hS hm_t hf8 rfl 3 (by decide) (hts _ (mT wg_202)) (fun _ h => h) rfl (by decide +kernel) (rfl) (rfl) (Nat.le_of_ble_eq_true rfl) rfl dX8_nextPart_122 (fun H locs f14 hf16 ho15 hP hD hS => ?_)
  have hfr17 : ∀ b, b ∈ L → b ≠ t → f14 b = f b := fun b hb z0 => (ho15 b z0).trans (hfr9 b hb z0)
  exact ret_v hx hb hr hlocks hP hD hS (Nat.le_of_ble_eq_true rfl) (Nat.le_of_ble_eq_true rfl) (⟨hf16, hfr17, hsb0⟩) dX8_nextPart_125

set_option maxHeartbeats 4000000 in
set_option maxRecDepth 100000 in
theorem k_X8_firstPart (l : Launch) (g : GG) (L : List Nat) (f : HP) (sz : Nat) (t tb : Nat) (z2 : Int32) (z3 : Int32) (z4 : Int32) (hm_t : t ∈ L) (hf_t : f t = .inr (8, [.ref tb, .int 0, .int z2, .int z3, .int z4])) : MtV l g yX8_firstPart cX8_firstPart 1 ({ frames := 1, cells := 0, slots := 0, locals := 22 }) [.ref t] L f sz (fun u => u.2 t = .inr (8, [.ref tb, .int 0, .int 0, .int 0, .int 0]) ∧ (∀ b, b ∈ L → b ≠ t → u.2 b = f b) ∧ (∀ b, b ∈ L → b ∈ u.1)) := by
  refine MtV.of (by decide +kernel) (Nat.le_of_ble_eq_true rfl) ?_
  intro p e s m below meth c A hEn hP hD hS ls hl
  obtain ⟨hx, hb, hr, hml, hown, hlocks, hts, hG, hA, hE, hnm⟩ := hEn
  have hown : s.vm.findClass "RulerWord$Tape" = some m.cls := hown
  have hl : lv_has ls 1 [(0, .ref t)] := hl
  have hfr0 : ∀ b, b ∈ L → b ≠ t → f b = f b := fun b hb z0 => rfl
  have hsb0 : ∀ b, b ∈ L → b ∈ L := fun b hb => hb
  refine lv_aload_n hx hb dX8_firstPart_0 rfl (lv_at hl 0 rfl) ?_
  refine lv_iconst (v := 0) hx hb dX8_firstPart_1 (by decide) ?_
  refine pl_put (ty := .int) (v := .int 0) (fs' := [.ref tb, .int 0, .int z2, .int 0, .int z4]) hx hb hts (fun w h => mT (inX8 w h)) tyX8 tyX8_ok nmX8 hown hG.1 hP hD hS hm_t hf_t rfl 3 (by decide) (hts _ (mT wg_202)) (fun _ h => h) rfl (by decide +kernel) (rfl) (rfl) (Nat.le_of_ble_eq_true rfl) rfl dX8_firstPart_2 (fun H locs f1 hf3 ho2 hP hD hS => ?_)
  have hfr4 : ∀ b, b ∈ L → b ≠ t → f1 b = f b := fun b hb z0 => (ho2 b z0).trans (hfr0 b hb z0)
  refine lv_aload_n hx hb dX8_firstPart_5 rfl (lv_at hl 0 rfl) ?_
  refine call_v (run_V (rm := { frames := 0, cells := 0, slots := 0, locals := 0 }) hx hb hml hown hts (k_X8_nextPart l g _ _ _ t tb z2 z4 hm_t hf3) cV_X8_nextPart wg_562 ⟨Nat.le_of_ble_eq_true rfl, Nat.le_of_ble_eq_true rfl⟩ hG hE hA hP hD hS hm_t hf3 rfl rfl hl.1 (As := []) (rest := []) rfl (Nat.le_of_ble_eq_true rfl) dX8_firstPart_6 ⟨Nat.le_of_ble_eq_true rfl, Nat.le_of_ble_eq_true rfl⟩) hA hD hS (fun L6 f7 H locs hp8 hP hD hS => ?_)
  obtain ⟨hf9, fr10, sb11⟩ := hp8
  have hfr12 : ∀ b, b ∈ L → b ≠ t → f7 b = f b := fun b hb z0 => (fr10 b (hsb0 b hb) z0).trans (hfr4 b hb z0)
  have hsb13 : ∀ b, b ∈ L → b ∈ L6 := fun b hb => sb11 b (hsb0 b hb)
  have hm14 := sb11 _ hm_t
  exact ret_v hx hb hr hlocks hP hD hS (Nat.le_of_ble_eq_true rfl) (Nat.le_of_ble_eq_true rfl) (⟨hf9, hfr12, hsb13⟩) dX8_firstPart_9

set_option maxHeartbeats 4000000 in
set_option maxRecDepth 100000 in
theorem k_X8_isWord (l : Launch) (g : GG) (L : List Nat) (f : HP) (sz : Nat) (t sa tb : Nat) (hm_t : t ∈ L) (hf_t : f t = .inr (8, [.ref tb, .int 0, .int 0, .int 0, .int 0])) : MtI l g yX8_isWord cX8_isWord 3 (some .boolean) ({ frames := 0, cells := 0, slots := 0, locals := 0 }) [.ref t, .ref sa] L f sz (fun r u => r = 0 ∧ (∀ b, b ∈ L → u.2 b = f b) ∧ (∀ b, b ∈ L → b ∈ u.1)) := by
  refine MtI.of (by decide +kernel) (Nat.le_of_ble_eq_true rfl) ?_
  intro p e s m below meth c A hEn hP hD hS ls hl
  obtain ⟨hx, hb, hr, hml, hown, hlocks, hts, hG, hA, hE, hnm⟩ := hEn
  have hown : s.vm.findClass "RulerWord$Tape" = some m.cls := hown
  have hl : lv_has ls 3 [(0, .ref t), (1, .ref sa)] := hl
  have hfr0 : ∀ b, b ∈ L → f b = f b := fun b hb  => rfl
  have hsb0 : ∀ b, b ∈ L → b ∈ L := fun b hb => hb
  refine lv_aload_n hx hb dX8_isWord_0 rfl (lv_at hl 0 rfl) ?_
  refine pl_get (v := .int 0) hx hb hts (fun w h => mT (inX8 w h)) hown hG.1 hP hm_t hf_t rfl 4 (by decide) (hts _ (mT wg_205)) (fun _ h => h) rfl dX8_isWord_1 ?_
  refine lv_iconst (v := 2) hx hb dX8_isWord_4 (by decide) ?_
  refine lv_icmp_ne (tgt := 24) hx hb dX8_isWord_5 (by decide) (fun c1 => ?_) (fun c1 => absurd c1 (by decide))
  refine lv_iconst (v := 0) hx hb dX8_isWord_24 (by decide) ?_
  exact ret_i (ty := .boolean) hx hb hr hlocks (rfl) hP hD hS (Nat.le_of_ble_eq_true rfl) (Nat.le_of_ble_eq_true rfl) (⟨rfl, hfr0, hsb0⟩) dX8_isWord_25

set_option maxHeartbeats 4000000 in
set_option maxRecDepth 100000 in
theorem k_X8_digits (l : Launch) (g : GG) (L : List Nat) (f : HP) (sz : Nat) (t tb : Nat) (hm_t : t ∈ L) (hf_t : f t = .inr (8, [.ref tb, .int 0, .int 0, .int 0, .int 0])) : MtI l g yX8_digits cX8_digits 1 (some .int) ({ frames := 0, cells := 0, slots := 0, locals := 0 }) [.ref t] L f sz (fun r u => r = 0 ∧ (∀ b, b ∈ L → u.2 b = f b) ∧ (∀ b, b ∈ L → b ∈ u.1)) := by
  refine MtI.of (by decide +kernel) (Nat.le_of_ble_eq_true rfl) ?_
  intro p e s m below meth c A hEn hP hD hS ls hl
  obtain ⟨hx, hb, hr, hml, hown, hlocks, hts, hG, hA, hE, hnm⟩ := hEn
  have hown : s.vm.findClass "RulerWord$Tape" = some m.cls := hown
  have hl : lv_has ls 1 [(0, .ref t)] := hl
  have hfr0 : ∀ b, b ∈ L → f b = f b := fun b hb  => rfl
  have hsb0 : ∀ b, b ∈ L → b ∈ L := fun b hb => hb
  refine lv_aload_n hx hb dX8_digits_0 rfl (lv_at hl 0 rfl) ?_
  refine pl_get (v := .int 0) hx hb hts (fun w h => mT (inX8 w h)) hown hG.1 hP hm_t hf_t rfl 4 (by decide) (hts _ (mT wg_205)) (fun _ h => h) rfl dX8_digits_1 ?_
  refine lv_iconst (v := 3) hx hb dX8_digits_4 (by decide) ?_
  refine lv_icmp_ne (tgt := 20) hx hb dX8_digits_5 (by decide) (fun c1 => ?_) (fun c1 => absurd c1 (by decide))
  refine lv_iconst (v := 0) hx hb dX8_digits_20 (by decide) ?_
  exact ret_i (ty := .int) hx hb hr hlocks (rfl) hP hD hS (Nat.le_of_ble_eq_true rfl) (Nat.le_of_ble_eq_true rfl) (⟨rfl, hfr0, hsb0⟩) dX8_digits_21

set_option maxHeartbeats 4000000 in
set_option maxRecDepth 100000 in
theorem k_X8_number (l : Launch) (g : GG) (L : List Nat) (f : HP) (sz : Nat) (t tb : Nat) (hm_t : t ∈ L) (hf_t : f t = .inr (8, [.ref tb, .int 0, .int 0, .int 0, .int 0])) : MtI l g yX8_number cX8_number 4 (some .int) ({ frames := 1, cells := 0, slots := 0, locals := 20 }) [.ref t, .int 0, .int 2] L f sz (fun r u => r = (-1) ∧ (∀ b, b ∈ L → u.2 b = f b) ∧ (∀ b, b ∈ L → b ∈ u.1)) := by
  refine MtI.of (by decide +kernel) (Nat.le_of_ble_eq_true rfl) ?_
  intro p e s m below meth c A hEn hP hD hS ls hl
  obtain ⟨hx, hb, hr, hml, hown, hlocks, hts, hG, hA, hE, hnm⟩ := hEn
  have hown : s.vm.findClass "RulerWord$Tape" = some m.cls := hown
  have hl : lv_has ls 4 [(0, .ref t), (1, .int 0), (2, .int 2)] := hl
  have hfr0 : ∀ b, b ∈ L → f b = f b := fun b hb  => rfl
  have hsb0 : ∀ b, b ∈ L → b ∈ L := fun b hb => hb
  refine lv_aload_n hx hb dX8_number_0 rfl (lv_at hl 0 rfl) ?_
  refine call_i (run_V (rm := { frames := 0, cells := 0, slots := 0, locals := 0 }) hx hb hml hown hts (k_X8_digits l g _ _ _ t tb hm_t hf_t) cV_X8_digits wg_651 ⟨Nat.le_of_ble_eq_true rfl, Nat.le_of_ble_eq_true rfl⟩ hG hE hA hP hD hS hm_t hf_t rfl rfl hl.1 (As := []) (rest := []) rfl (Nat.le_of_ble_eq_true rfl) dX8_number_1 ⟨Nat.le_of_ble_eq_true rfl, Nat.le_of_ble_eq_true rfl⟩) hA hD hS (fun r1 L2 f3 H locs hp4 hP hD hS => ?_)
  obtain ⟨er5, fr6, sb7⟩ := hp4
  have hfr8 : ∀ b, b ∈ L → f3 b = f b := fun b hb  => (fr6 b (hsb0 b hb) ).trans (hfr0 b hb )
  have hsb9 : ∀ b, b ∈ L → b ∈ L2 := fun b hb => sb7 b (hsb0 b hb)
  have hf11 := (fr6 t hm_t ).trans hf_t
  have hm10 := sb7 _ hm_t
  subst er5
  refine lv_iconst (v := 1) hx hb dX8_number_4 (by decide) ?_
  refine lv_icmp_ne (tgt := 16) hx hb dX8_number_5 (by decide) (fun c12 => ?_) (fun c12 => absurd c12 (by decide))
  refine lv_iconst (v := (-1)) hx hb dX8_number_16 (by decide) ?_
  refine lv_istore_n (lv' := [(3, .int (-1)), (0, .ref t), (1, .int 0), (2, .int 2)]) hx hb dX8_number_17 rfl hl (by decide) rfl (fun ls hl => ?_)
  refine lv_iload_n hx hb dX8_number_18 rfl (lv_at hl 0 rfl) ?_
  refine lv_iload_n hx hb dX8_number_19 rfl (lv_at hl 2 rfl) ?_
  refine lv_icmp_lt (tgt := 28) hx hb dX8_number_20 (by decide) (fun c13 => ?_) (fun c13 => absurd (by decide) c13)
  refine lv_iconst (v := (-1)) hx hb dX8_number_28 (by decide) ?_
  refine lv_goto (tgt := 33) hx hb dX8_number_29 (by decide) ?_
  exact ret_i (ty := .int) hx hb hr hlocks (rfl) hP hD hS (Nat.le_of_ble_eq_true rfl) (Nat.le_of_ble_eq_true rfl) (⟨rfl, hfr8, hsb9⟩) dX8_number_33

set_option maxHeartbeats 4000000 in
set_option maxRecDepth 100000 in
theorem k_X2_clear (l : Launch) (g : GG) (L : List Nat) (f : HP) (sz : Nat) (dr : Nat) (z0 : Int32) (z1 : Int32) (z2 : Int32) (z3 : Int32) (z4 : Int32) (z5 : Int32) (z7 : Int32) (hm_dr : dr ∈ L) (hf_dr : f dr = .inr (2, [.int z0, .int z1, .int z2, .int z3, .int z4, .int z5, .int 0, .int z7])) : MtV l g yX2_clear cX2_clear 1 ({ frames := 0, cells := 0, slots := 0, locals := 0 }) [.ref dr] L f sz (fun u => u.2 dr = .inr (2, [.int z0, .int 0, .int z2, .int z3, .int 0, .int 0, .int 0, .int 0]) ∧ (∀ b, b ∈ L → b ≠ dr → u.2 b = f b) ∧ (∀ b, b ∈ L → b ∈ u.1)) := by
  refine MtV.of (by decide +kernel) (Nat.le_of_ble_eq_true rfl) ?_
  intro p e s m below meth c A hEn hP hD hS ls hl
  obtain ⟨hx, hb, hr, hml, hown, hlocks, hts, hG, hA, hE, hnm⟩ := hEn
  have hown : s.vm.findClass "RulerWord$Council" = some m.cls := hown
  have hl : lv_has ls 1 [(0, .ref dr)] := hl
  have hfr0 : ∀ b, b ∈ L → b ≠ dr → f b = f b := fun b hb z0 => rfl
  have hsb0 : ∀ b, b ∈ L → b ∈ L := fun b hb => hb
  refine lv_aload_n hx hb dX2_clear_0 rfl (lv_at hl 0 rfl) ?_
  refine lv_iconst (v := 0) hx hb dX2_clear_1 (by decide) ?_
  refine pl_put (ty := .int) (v := .int 0) (fs' := [.int z0, .int z1, .int z2, .int z3, .int z4, .int z5, .int 0, .int 0]) hx hb hts (fun w h => mT (inX2 w h)) tyX2 tyX2_ok nmX2 hown hG.1 hP hD hS hm_dr hf_dr rfl 7 (by decide) (hts _ (mT wg_245)) (fun _ h => h) rfl (by decide +kernel) (rfl) (rfl) (Nat.le_of_ble_eq_true rfl) rfl dX2_clear_2 (fun H locs f1 hf3 ho2 hP hD hS => ?_)
  have hfr4 : ∀ b, b ∈ L → b ≠ dr → f1 b = f b := fun b hb z0 => (ho2 b z0).trans (hfr0 b hb z0)
  refine lv_aload_n hx hb dX2_clear_5 rfl (lv_at hl 0 rfl) ?_
  refine lv_iconst (v := 0) hx hb dX2_clear_6 (by decide) ?_
  refine pl_put (ty := .int) (v := .int 0) (fs' := [.int z0, .int 0, .int z2, .int z3, .int z4, .int z5, .int 0, .int 0]) hx hb hts (fun w h => mT (inX2 w h)) tyX2 tyX2_ok nmX2 hown hG.1 hP hD hS hm_dr hf3 rfl 1 (by decide) (hts _ (mT wg_228)) (fun _ h => h) rfl (by decide +kernel) (rfl) (rfl) (Nat.le_of_ble_eq_true rfl) rfl dX2_clear_7 (fun H locs f5 hf7 ho6 hP hD hS => ?_)
  have hfr8 : ∀ b, b ∈ L → b ≠ dr → f5 b = f b := fun b hb z0 => (ho6 b z0).trans (hfr4 b hb z0)
  refine lv_aload_n hx hb dX2_clear_10 rfl (lv_at hl 0 rfl) ?_
  refine lv_iconst (v := 0) hx hb dX2_clear_11 (by decide) ?_
  refine pl_put (ty := .int) (v := .int 0) (fs' := [.int z0, .int 0, .int z2, .int z3, .int 0, .int z5, .int 0, .int 0]) hx hb hts (fun w h => mT (inX2 w h)) tyX2 tyX2_ok nmX2 hown hG.1 hP hD hS hm_dr hf7 rfl 4 (by decide) (hts _ (mT wg_237)) (fun _ h => h) rfl (by decide +kernel) (rfl) (rfl) (Nat.le_of_ble_eq_true rfl) rfl dX2_clear_12 (fun H locs f9 hf11 ho10 hP hD hS => ?_)
  have hfr12 : ∀ b, b ∈ L → b ≠ dr → f9 b = f b := fun b hb z0 => (ho10 b z0).trans (hfr8 b hb z0)
  refine lv_aload_n hx hb dX2_clear_15 rfl (lv_at hl 0 rfl) ?_
  refine lv_iconst (v := 0) hx hb dX2_clear_16 (by decide) ?_
  refine pl_put (ty := .int) (v := .int 0) (fs' := [.int z0, .int 0, .int z2, .int z3, .int 0, .int 0, .int 0, .int 0]) hx hb hts (fun w h => mT (inX2 w h)) tyX2 tyX2_ok nmX2 hown hG.1 hP hD hS hm_dr hf11 rfl 5 (by decide) (hts _ (mT wg_239)) (fun _ h => h) rfl (by decide +kernel) (rfl) (rfl) (Nat.le_of_ble_eq_true rfl) rfl dX2_clear_17 (fun H locs f13 hf15 ho14 hP hD hS => ?_)
  have hfr16 : ∀ b, b ∈ L → b ≠ dr → f13 b = f b := fun b hb z0 => (ho14 b z0).trans (hfr12 b hb z0)
  refine lv_aload_n hx hb dX2_clear_20 rfl (lv_at hl 0 rfl) ?_
  refine lv_iconst (v := 0) hx hb dX2_clear_21 (by decide) ?_
  refine pl_put (ty := .boolean) (v := .int 0) (fs' := [.int z0, .int 0, .int z2, .int z3, .int 0, .int 0, .int 0, .int 0]) hx hb hts (fun w h => mT (inX2 w h)) tyX2 tyX2_ok nmX2 hown hG.1 hP hD hS hm_dr hf15 rfl 6 (by decide) (hts _ (mT wg_241)) (fun _ h => h) rfl (by decide +kernel) (rfl) (rfl) (Nat.le_of_ble_eq_true rfl) rfl dX2_clear_22 (fun H locs f17 hf19 ho18 hP hD hS => ?_)
  have hfr20 : ∀ b, b ∈ L → b ≠ dr → f17 b = f b := fun b hb z0 => (ho18 b z0).trans (hfr16 b hb z0)
  exact ret_v hx hb hr hlocks hP hD hS (Nat.le_of_ble_eq_true rfl) (Nat.le_of_ble_eq_true rfl) (⟨hf19, hfr20, hsb0⟩) dX2_clear_25

set_option maxHeartbeats 4000000 in
set_option maxRecDepth 100000 in
theorem k_X2_readFrom (l : Launch) (g : GG) (L : List Nat) (f : HP) (sz : Nat) (dr t tb : Nat) (hm_dr : dr ∈ L) (hf_dr : f dr = .inr (2, [.int 0, .int 0, .int 0, .int 0, .int 0, .int 0, .int 0, .int 0])) (hm_t : t ∈ L) (hf_t : f t = .inr (8, [.ref tb, .int 0, .int 0, .int 0, .int 0])) : MtI l g yX2_readFrom cX2_readFrom 3 (some .int) ({ frames := 2, cells := 0, slots := 0, locals := 42 }) [.ref dr, .ref t] L f sz (fun r u => u.2 dr = .inr (2, [.int 1, .int 0, .int 0, .int 0, .int 0, .int 0, .int 0, .int 0]) ∧ u.2 t = .inr (8, [.ref tb, .int 0, .int 0, .int 0, .int 0]) ∧ r = 0 ∧ (∀ b, b ∈ L → b ≠ dr → b ≠ t → u.2 b = f b) ∧ (∀ b, b ∈ L → b ∈ u.1)) := by
  refine MtI.of (by decide +kernel) (Nat.le_of_ble_eq_true rfl) ?_
  intro p e s m below meth c A hEn hP hD hS ls hl
  obtain ⟨hx, hb, hr, hml, hown, hlocks, hts, hG, hA, hE, hnm⟩ := hEn
  have hown : s.vm.findClass "RulerWord$Council" = some m.cls := hown
  have hl : lv_has ls 3 [(0, .ref dr), (1, .ref t)] := hl
  have hfr0 : ∀ b, b ∈ L → b ≠ dr → b ≠ t → f b = f b := fun b hb z0 z1 => rfl
  have hsb0 : ∀ b, b ∈ L → b ∈ L := fun b hb => hb
  refine lv_aload_n hx hb dX2_readFrom_0 rfl (lv_at hl 0 rfl) ?_
  refine call_v (run_V (rm := { frames := 0, cells := 0, slots := 0, locals := 0 }) hx hb hml hown hts (k_X2_clear l g _ _ _ dr 0 0 0 0 0 0 0 hm_dr hf_dr) cV_X2_clear wg_554 ⟨Nat.le_of_ble_eq_true rfl, Nat.le_of_ble_eq_true rfl⟩ hG hE hA hP hD hS hm_dr hf_dr rfl rfl hl.1 (As := []) (rest := []) rfl (Nat.le_of_ble_eq_true rfl) dX2_readFrom_1 ⟨Nat.le_of_ble_eq_true rfl, Nat.le_of_ble_eq_true rfl⟩) hA hD hS (fun L2 f3 H locs hp4 hP hD hS => ?_)
  obtain ⟨hf5, fr6, sb7⟩ := hp4
  have hfr8 : ∀ b, b ∈ L → b ≠ dr → b ≠ t → f3 b = f b := fun b hb z0 z1 => (fr6 b (hsb0 b hb) z0).trans (hfr0 b hb z0 z1)
  have hsb9 : ∀ b, b ∈ L → b ∈ L2 := fun b hb => sb7 b (hsb0 b hb)
  have hm10 := sb7 _ hm_dr
  have hf12 := (fr6 t hm_t (kne hf_t hf_dr (by decide))).trans hf_t
  have hm11 := sb7 _ hm_t
  refine lv_aload_n hx hb dX2_readFrom_4 rfl (lv_at hl 1 rfl) ?_
  refine call_v (run_VN (rm := { frames := 1, cells := 0, slots := 0, locals := 22 }) hx hb hml hown hts (k_X8_firstPart l g _ _ _ t tb 0 0 0 hm11 hf12) cV_X8_firstPart wn_558 ⟨Nat.le_of_ble_eq_true rfl, Nat.le_of_ble_eq_true rfl⟩ hG hE hA hP hD hS hm11 hf12 rfl rfl hl.1 (As := []) (rest := []) rfl (Nat.le_of_ble_eq_true rfl) dX2_readFrom_5 ⟨Nat.le_of_ble_eq_true rfl, Nat.le_of_ble_eq_true rfl⟩) hA hD hS (fun L14 f15 H locs hp16 hP hD hS => ?_)
  obtain ⟨hf17, fr18, sb19⟩ := hp16
  have hfr20 : ∀ b, b ∈ L → b ≠ dr → b ≠ t → f15 b = f b := fun b hb z0 z1 => (fr18 b (hsb9 b hb) z1).trans (hfr8 b hb z0 z1)
  have hsb21 : ∀ b, b ∈ L → b ∈ L14 := fun b hb => sb19 b (hsb9 b hb)
  have hf23 := (fr18 dr hm10 (kne hf5 hf12 (by decide))).trans hf5
  have hm22 := sb19 _ hm10
  have hm24 := sb19 _ hm11
  refine lv_aload_n hx hb dX2_readFrom_8 rfl (lv_at hl 0 rfl) ?_
  refine lv_aload_n hx hb dX2_readFrom_9 rfl (lv_at hl 1 rfl) ?_
  refine va_ldcS hx hb hown (hG.2.2.1 ("RulerWord$Council", 42, "king", 0) (by decide +kernel)) dX2_readFrom_10 ?_
  refine call_i (run_VN (rm := { frames := 0, cells := 0, slots := 0, locals := 0 }) hx hb hml hown hts (k_X8_isWord l g _ _ _ t (g.2.2.1 0) tb hm24 hf17) cV_X8_isWord wn_570 ⟨Nat.le_of_ble_eq_true rfl, Nat.le_of_ble_eq_true rfl⟩ hG hE hA hP hD hS hm24 hf17 rfl rfl hl.1 (As := [.ref (g.2.2.1 0)]) (rest := [.ref dr]) rfl (Nat.le_of_ble_eq_true rfl) dX2_readFrom_12 ⟨Nat.le_of_ble_eq_true rfl, Nat.le_of_ble_eq_true rfl⟩) hA hD hS (fun r25 L26 f27 H locs hp28 hP hD hS => ?_)
  obtain ⟨er29, fr30, sb31⟩ := hp28
  have hfr32 : ∀ b, b ∈ L → b ≠ dr → b ≠ t → f27 b = f b := fun b hb z0 z1 => (fr30 b (hsb21 b hb) ).trans (hfr20 b hb z0 z1)
  have hsb33 : ∀ b, b ∈ L → b ∈ L26 := fun b hb => sb31 b (hsb21 b hb)
  have hf35 := (fr30 dr hm22 ).trans hf23
  have hm34 := sb31 _ hm22
  have hf37 := (fr30 t hm24 ).trans hf17
  have hm36 := sb31 _ hm24
  subst er29
  refine lv_if_eq (tgt := 22) hx hb dX2_readFrom_15 (by decide) (fun c38 => ?_) (fun c38 => absurd (by decide) c38)
  refine lv_iconst (v := 1) hx hb dX2_readFrom_22 (by decide) ?_
  refine pl_put (ty := .int) (v := .int 1) (fs' := [.int 1, .int 0, .int 0, .int 0, .int 0, .int 0, .int 0, .int 0]) hx hb hts (fun w h => mT (inX2 w h)) tyX2 tyX2_ok nmX2 hown hG.1 hP hD hS hm34 hf35 rfl 0 (by decide) (hts _ (mT wg_224)) (fun _ h => h) rfl (by decide +kernel) (rfl) (rfl) (Nat.le_of_ble_eq_true rfl) rfl dX2_readFrom_23 (fun H locs f39 hf41 ho40 hP hD hS => ?_)
  have hfr42 : ∀ b, b ∈ L → b ≠ dr → b ≠ t → f39 b = f b := fun b hb z0 z1 => (ho40 b z0).trans (hfr32 b hb z0 z1)
  have hf43 := (ho40 t (kne hf37 hf35 (by decide))).trans hf37
  refine lv_aload_n hx hb dX2_readFrom_26 rfl (lv_at hl 0 rfl) ?_
  refine pl_get (v := .int 1) hx hb hts (fun w h => mT (inX2 w h)) hown hG.1 hP hm34 hf41 rfl 0 (by decide) (hts _ (mT wg_224)) (fun _ h => h) rfl dX2_readFrom_27 ?_
  refine lv_iconst (v := 1) hx hb dX2_readFrom_30 (by decide) ?_
  refine lv_icmp_ne (tgt := 48) hx hb dX2_readFrom_31 (by decide) (fun c44 => absurd rfl c44) (fun c44 => ?_)
  refine lv_aload_n hx hb dX2_readFrom_34 rfl (lv_at hl 1 rfl) ?_
  refine va_ldcS hx hb hown (hG.2.2.1 ("RulerWord$Council", 48, "queen", 1) (by decide +kernel)) dX2_readFrom_35 ?_
  refine call_i (run_VN (rm := { frames := 0, cells := 0, slots := 0, locals := 0 }) hx hb hml hown hts (k_X8_isWord l g _ _ _ t (g.2.2.1 1) tb hm36 hf43) cV_X8_isWord wn_570 ⟨Nat.le_of_ble_eq_true rfl, Nat.le_of_ble_eq_true rfl⟩ hG hE hA hP hD hS hm36 hf43 rfl rfl hl.1 (As := [.ref (g.2.2.1 1)]) (rest := []) rfl (Nat.le_of_ble_eq_true rfl) dX2_readFrom_37 ⟨Nat.le_of_ble_eq_true rfl, Nat.le_of_ble_eq_true rfl⟩) hA hD hS (fun r45 L46 f47 H locs hp48 hP hD hS => ?_)
  obtain ⟨er49, fr50, sb51⟩ := hp48
  have hfr52 : ∀ b, b ∈ L → b ≠ dr → b ≠ t → f47 b = f b := fun b hb z0 z1 => (fr50 b (hsb33 b hb) ).trans (hfr42 b hb z0 z1)
  have hsb53 : ∀ b, b ∈ L → b ∈ L46 := fun b hb => sb51 b (hsb33 b hb)
  have hf55 := (fr50 dr hm34 ).trans hf41
  have hm54 := sb51 _ hm34
  have hf57 := (fr50 t hm36 ).trans hf43
  have hm56 := sb51 _ hm36
  subst er49
  refine lv_if_ne (tgt := 48) hx hb dX2_readFrom_40 (by decide) (fun c58 => absurd rfl c58) (fun c58 => ?_)
  refine lv_aload_n hx hb dX2_readFrom_43 rfl (lv_at hl 1 rfl) ?_
  refine pl_getN (v := .int 0) hx hb hts (fun w h => mT (inX8 w h)) hown hG.1 hP hm56 hf57 rfl 2 (by decide) (hG.2.1 _ wn_199) (fun _ h => h) rfl dX2_readFrom_44 ?_
  exact ret_i (ty := .int) hx hb hr hlocks (rfl) hP hD hS (Nat.le_of_ble_eq_true rfl) (Nat.le_of_ble_eq_true rfl) (⟨hf55, hf57, rfl, hfr52, hsb53⟩) dX2_readFrom_47

set_option maxHeartbeats 4000000 in
set_option maxRecDepth 100000 in
theorem k_X5_wordOf_0 (l : Launch) (g : GG) (L : List Nat) (f : HP) (sz : Nat)   : MtR l g yX5_wordOf cX5_wordOf 1 (some (.object "java/lang/String")) ({ frames := 0, cells := 0, slots := 0, locals := 0 }) [.int 0] L f sz (fun r u => r = (g.2.2.1 8) ∧ (∀ b, b ∈ L → u.2 b = f b) ∧ (∀ b, b ∈ L → b ∈ u.1)) := by
  refine MtR.of (by decide +kernel) (Nat.le_of_ble_eq_true rfl) ?_
  intro p e s m below meth c A hEn hP hD hS ls hl
  obtain ⟨hx, hb, hr, hml, hown, hlocks, hts, hG, hA, hE, hnm⟩ := hEn
  have hown : s.vm.findClass "RulerWord$Plan" = some m.cls := hown
  have hl : lv_has ls 1 [(0, .int 0)] := hl
  have hfr0 : ∀ b, b ∈ L → f b = f b := fun b hb  => rfl
  have hsb0 : ∀ b, b ∈ L → b ∈ L := fun b hb => hb
  refine lv_iload_n hx hb dX5_wordOf_0 rfl (lv_at hl 0 rfl) ?_
  refine lv_tableIn (off := 27) (tgt := 28) hx hb dX5_wordOf_1 (by decide) (by decide) (by decide) (by decide) ?_
  refine va_ldcS hx hb hown (hG.2.2.1 ("RulerWord$Plan", 63, "phase", 8) (by decide +kernel)) dX5_wordOf_28 ?_
  exact ret_r (ty := .object "java/lang/String") hx hb hr hlocks (Or.inl ⟨_, rfl⟩) hP hD hS (Nat.le_of_ble_eq_true rfl) (Nat.le_of_ble_eq_true rfl) (⟨rfl, hfr0, hsb0⟩) dX5_wordOf_30

set_option maxHeartbeats 4000000 in
set_option maxRecDepth 100000 in
theorem k_X5_wordOf_1 (l : Launch) (g : GG) (L : List Nat) (f : HP) (sz : Nat)   : MtR l g yX5_wordOf cX5_wordOf 1 (some (.object "java/lang/String")) ({ frames := 0, cells := 0, slots := 0, locals := 0 }) [.int 1] L f sz (fun r u => r = (g.2.2.1 9) ∧ (∀ b, b ∈ L → u.2 b = f b) ∧ (∀ b, b ∈ L → b ∈ u.1)) := by
  refine MtR.of (by decide +kernel) (Nat.le_of_ble_eq_true rfl) ?_
  intro p e s m below meth c A hEn hP hD hS ls hl
  obtain ⟨hx, hb, hr, hml, hown, hlocks, hts, hG, hA, hE, hnm⟩ := hEn
  have hown : s.vm.findClass "RulerWord$Plan" = some m.cls := hown
  have hl : lv_has ls 1 [(0, .int 1)] := hl
  have hfr0 : ∀ b, b ∈ L → f b = f b := fun b hb  => rfl
  have hsb0 : ∀ b, b ∈ L → b ∈ L := fun b hb => hb
  refine lv_iload_n hx hb dX5_wordOf_0 rfl (lv_at hl 0 rfl) ?_
  refine lv_tableIn (off := 30) (tgt := 31) hx hb dX5_wordOf_1 (by decide) (by decide) (by decide) (by decide) ?_
  refine va_ldcS hx hb hown (hG.2.2.1 ("RulerWord$Plan", 65, "round", 9) (by decide +kernel)) dX5_wordOf_31 ?_
  exact ret_r (ty := .object "java/lang/String") hx hb hr hlocks (Or.inl ⟨_, rfl⟩) hP hD hS (Nat.le_of_ble_eq_true rfl) (Nat.le_of_ble_eq_true rfl) (⟨rfl, hfr0, hsb0⟩) dX5_wordOf_33

set_option maxHeartbeats 4000000 in
set_option maxRecDepth 100000 in
theorem k_X5_wordOf_2 (l : Launch) (g : GG) (L : List Nat) (f : HP) (sz : Nat)   : MtR l g yX5_wordOf cX5_wordOf 1 (some (.object "java/lang/String")) ({ frames := 0, cells := 0, slots := 0, locals := 0 }) [.int 2] L f sz (fun r u => r = (g.2.2.1 10) ∧ (∀ b, b ∈ L → u.2 b = f b) ∧ (∀ b, b ∈ L → b ∈ u.1)) := by
  refine MtR.of (by decide +kernel) (Nat.le_of_ble_eq_true rfl) ?_
  intro p e s m below meth c A hEn hP hD hS ls hl
  obtain ⟨hx, hb, hr, hml, hown, hlocks, hts, hG, hA, hE, hnm⟩ := hEn
  have hown : s.vm.findClass "RulerWord$Plan" = some m.cls := hown
  have hl : lv_has ls 1 [(0, .int 2)] := hl
  have hfr0 : ∀ b, b ∈ L → f b = f b := fun b hb  => rfl
  have hsb0 : ∀ b, b ∈ L → b ∈ L := fun b hb => hb
  refine lv_iload_n hx hb dX5_wordOf_0 rfl (lv_at hl 0 rfl) ?_
  refine lv_tableIn (off := 33) (tgt := 34) hx hb dX5_wordOf_1 (by decide) (by decide) (by decide) (by decide) ?_
  refine va_ldcS hx hb hown (hG.2.2.1 ("RulerWord$Plan", 67, "from", 10) (by decide +kernel)) dX5_wordOf_34 ?_
  exact ret_r (ty := .object "java/lang/String") hx hb hr hlocks (Or.inl ⟨_, rfl⟩) hP hD hS (Nat.le_of_ble_eq_true rfl) (Nat.le_of_ble_eq_true rfl) (⟨rfl, hfr0, hsb0⟩) dX5_wordOf_36

set_option maxHeartbeats 4000000 in
set_option maxRecDepth 100000 in
theorem k_X5_wordOf_3 (l : Launch) (g : GG) (L : List Nat) (f : HP) (sz : Nat)   : MtR l g yX5_wordOf cX5_wordOf 1 (some (.object "java/lang/String")) ({ frames := 0, cells := 0, slots := 0, locals := 0 }) [.int 3] L f sz (fun r u => r = (g.2.2.1 11) ∧ (∀ b, b ∈ L → u.2 b = f b) ∧ (∀ b, b ∈ L → b ∈ u.1)) := by
  refine MtR.of (by decide +kernel) (Nat.le_of_ble_eq_true rfl) ?_
  intro p e s m below meth c A hEn hP hD hS ls hl
  obtain ⟨hx, hb, hr, hml, hown, hlocks, hts, hG, hA, hE, hnm⟩ := hEn
  have hown : s.vm.findClass "RulerWord$Plan" = some m.cls := hown
  have hl : lv_has ls 1 [(0, .int 3)] := hl
  have hfr0 : ∀ b, b ∈ L → f b = f b := fun b hb  => rfl
  have hsb0 : ∀ b, b ∈ L → b ∈ L := fun b hb => hb
  refine lv_iload_n hx hb dX5_wordOf_0 rfl (lv_at hl 0 rfl) ?_
  refine lv_tableOut (tgt := 37) hx hb dX5_wordOf_1 (by decide) (by decide) ?_
  refine va_ldcS hx hb hown (hG.2.2.1 ("RulerWord$Plan", 69, "to", 11) (by decide +kernel)) dX5_wordOf_37 ?_
  exact ret_r (ty := .object "java/lang/String") hx hb hr hlocks (Or.inl ⟨_, rfl⟩) hP hD hS (Nat.le_of_ble_eq_true rfl) (Nat.le_of_ble_eq_true rfl) (⟨rfl, hfr0, hsb0⟩) dX5_wordOf_39

set_option maxHeartbeats 4000000 in
set_option maxRecDepth 100000 in
theorem k_X5_actOf (l : Launch) (g : GG) (L : List Nat) (f : HP) (sz : Nat) (t tb : Nat) (hm_t : t ∈ L) (hf_t : f t = .inr (8, [.ref tb, .int 0, .int 0, .int 0, .int 0])) : MtI l g yX5_actOf cX5_actOf 1 (some .int) ({ frames := 2, cells := 0, slots := 0, locals := 43 }) [.ref t] L f sz (fun r u => r = (-1) ∧ (∀ b, b ∈ L → u.2 b = f b) ∧ (∀ b, b ∈ L → b ∈ u.1)) := by
  refine MtI.of (by decide +kernel) (Nat.le_of_ble_eq_true rfl) ?_
  intro p e s m below meth c A hEn hP hD hS ls hl
  obtain ⟨hx, hb, hr, hml, hown, hlocks, hts, hG, hA, hE, hnm⟩ := hEn
  have hown : s.vm.findClass "RulerWord$Plan" = some m.cls := hown
  have hl : lv_has ls 1 [(0, .ref t)] := hl
  have hfr0 : ∀ b, b ∈ L → f b = f b := fun b hb  => rfl
  have hsb0 : ∀ b, b ∈ L → b ∈ L := fun b hb => hb
  refine lv_aload_n hx hb dX5_actOf_0 rfl (lv_at hl 0 rfl) ?_
  refine va_ldcS hx hb hown (hG.2.2.1 ("RulerWord$Plan", 71, "same", 12) (by decide +kernel)) dX5_actOf_1 ?_
  refine call_i (run_VN (rm := { frames := 0, cells := 0, slots := 0, locals := 0 }) hx hb hml hown hts (k_X8_isWord l g _ _ _ t (g.2.2.1 12) tb hm_t hf_t) cV_X8_isWord wn_692 ⟨Nat.le_of_ble_eq_true rfl, Nat.le_of_ble_eq_true rfl⟩ hG hE hA hP hD hS hm_t hf_t rfl rfl hl.1 (As := [.ref (g.2.2.1 12)]) (rest := []) rfl (Nat.le_of_ble_eq_true rfl) dX5_actOf_3 ⟨Nat.le_of_ble_eq_true rfl, Nat.le_of_ble_eq_true rfl⟩) hA hD hS (fun r1 L2 f3 H locs hp4 hP hD hS => ?_)
  obtain ⟨er5, fr6, sb7⟩ := hp4
  have hfr8 : ∀ b, b ∈ L → f3 b = f b := fun b hb  => (fr6 b (hsb0 b hb) ).trans (hfr0 b hb )
  have hsb9 : ∀ b, b ∈ L → b ∈ L2 := fun b hb => sb7 b (hsb0 b hb)
  have hf11 := (fr6 t hm_t ).trans hf_t
  have hm10 := sb7 _ hm_t
  subst er5
  refine lv_if_eq (tgt := 11) hx hb dX5_actOf_6 (by decide) (fun c12 => ?_) (fun c12 => absurd (by decide) c12)
  refine lv_aload_n hx hb dX5_actOf_11 rfl (lv_at hl 0 rfl) ?_
  refine va_ldcS hx hb hown (hG.2.2.1 ("RulerWord$Plan", 73, "turn", 13) (by decide +kernel)) dX5_actOf_12 ?_
  refine call_i (run_VN (rm := { frames := 0, cells := 0, slots := 0, locals := 0 }) hx hb hml hown hts (k_X8_isWord l g _ _ _ t (g.2.2.1 13) tb hm10 hf11) cV_X8_isWord wn_692 ⟨Nat.le_of_ble_eq_true rfl, Nat.le_of_ble_eq_true rfl⟩ hG hE hA hP hD hS hm10 hf11 rfl rfl hl.1 (As := [.ref (g.2.2.1 13)]) (rest := []) rfl (Nat.le_of_ble_eq_true rfl) dX5_actOf_14 ⟨Nat.le_of_ble_eq_true rfl, Nat.le_of_ble_eq_true rfl⟩) hA hD hS (fun r13 L14 f15 H locs hp16 hP hD hS => ?_)
  obtain ⟨er17, fr18, sb19⟩ := hp16
  have hfr20 : ∀ b, b ∈ L → f15 b = f b := fun b hb  => (fr18 b (hsb9 b hb) ).trans (hfr8 b hb )
  have hsb21 : ∀ b, b ∈ L → b ∈ L14 := fun b hb => sb19 b (hsb9 b hb)
  have hf23 := (fr18 t hm10 ).trans hf11
  have hm22 := sb19 _ hm10
  subst er17
  refine lv_if_eq (tgt := 22) hx hb dX5_actOf_17 (by decide) (fun c24 => ?_) (fun c24 => absurd (by decide) c24)
  refine lv_aload_n hx hb dX5_actOf_22 rfl (lv_at hl 0 rfl) ?_
  refine va_ldcS hx hb hown (hG.2.2.1 ("RulerWord$Plan", 75, "split", 14) (by decide +kernel)) dX5_actOf_23 ?_
  refine call_i (run_VN (rm := { frames := 0, cells := 0, slots := 0, locals := 0 }) hx hb hml hown hts (k_X8_isWord l g _ _ _ t (g.2.2.1 14) tb hm22 hf23) cV_X8_isWord wn_692 ⟨Nat.le_of_ble_eq_true rfl, Nat.le_of_ble_eq_true rfl⟩ hG hE hA hP hD hS hm22 hf23 rfl rfl hl.1 (As := [.ref (g.2.2.1 14)]) (rest := []) rfl (Nat.le_of_ble_eq_true rfl) dX5_actOf_25 ⟨Nat.le_of_ble_eq_true rfl, Nat.le_of_ble_eq_true rfl⟩) hA hD hS (fun r25 L26 f27 H locs hp28 hP hD hS => ?_)
  obtain ⟨er29, fr30, sb31⟩ := hp28
  have hfr32 : ∀ b, b ∈ L → f27 b = f b := fun b hb  => (fr30 b (hsb21 b hb) ).trans (hfr20 b hb )
  have hsb33 : ∀ b, b ∈ L → b ∈ L26 := fun b hb => sb31 b (hsb21 b hb)
  have hf35 := (fr30 t hm22 ).trans hf23
  have hm34 := sb31 _ hm22
  subst er29
  refine lv_if_eq (tgt := 33) hx hb dX5_actOf_28 (by decide) (fun c36 => ?_) (fun c36 => absurd (by decide) c36)
  refine lv_aload_n hx hb dX5_actOf_33 rfl (lv_at hl 0 rfl) ?_
  refine va_ldcS hx hb hown (hG.2.2.1 ("RulerWord$Plan", 77, "draw", 15) (by decide +kernel)) dX5_actOf_34 ?_
  refine call_i (run_VN (rm := { frames := 0, cells := 0, slots := 0, locals := 0 }) hx hb hml hown hts (k_X8_isWord l g _ _ _ t (g.2.2.1 15) tb hm34 hf35) cV_X8_isWord wn_692 ⟨Nat.le_of_ble_eq_true rfl, Nat.le_of_ble_eq_true rfl⟩ hG hE hA hP hD hS hm34 hf35 rfl rfl hl.1 (As := [.ref (g.2.2.1 15)]) (rest := []) rfl (Nat.le_of_ble_eq_true rfl) dX5_actOf_36 ⟨Nat.le_of_ble_eq_true rfl, Nat.le_of_ble_eq_true rfl⟩) hA hD hS (fun r37 L38 f39 H locs hp40 hP hD hS => ?_)
  obtain ⟨er41, fr42, sb43⟩ := hp40
  have hfr44 : ∀ b, b ∈ L → f39 b = f b := fun b hb  => (fr42 b (hsb33 b hb) ).trans (hfr32 b hb )
  have hsb45 : ∀ b, b ∈ L → b ∈ L38 := fun b hb => sb43 b (hsb33 b hb)
  have hf47 := (fr42 t hm34 ).trans hf35
  have hm46 := sb43 _ hm34
  subst er41
  refine lv_if_eq (tgt := 47) hx hb dX5_actOf_39 (by decide) (fun c48 => ?_) (fun c48 => absurd (by decide) c48)
  refine lv_aload_n hx hb dX5_actOf_47 rfl (lv_at hl 0 rfl) ?_
  refine lv_iconst (v := 0) hx hb dX5_actOf_48 (by decide) ?_
  refine lv_iconst (v := 2) hx hb dX5_actOf_49 (by decide) ?_
  refine call_i (run_VN (rm := { frames := 1, cells := 0, slots := 0, locals := 20 }) hx hb hml hown hts (k_X8_number l g _ _ _ t tb hm46 hf47) cV_X8_number wn_697 ⟨Nat.le_of_ble_eq_true rfl, Nat.le_of_ble_eq_true rfl⟩ hG hE hA hP hD hS hm46 hf47 rfl rfl hl.1 (As := [.int 0, .int 2]) (rest := []) rfl (Nat.le_of_ble_eq_true rfl) dX5_actOf_50 ⟨Nat.le_of_ble_eq_true rfl, Nat.le_of_ble_eq_true rfl⟩) hA hD hS (fun r49 L50 f51 H locs hp52 hP hD hS => ?_)
  obtain ⟨er53, fr54, sb55⟩ := hp52
  have hfr56 : ∀ b, b ∈ L → f51 b = f b := fun b hb  => (fr54 b (hsb45 b hb) ).trans (hfr44 b hb )
  have hsb57 : ∀ b, b ∈ L → b ∈ L50 := fun b hb => sb55 b (hsb45 b hb)
  have hf59 := (fr54 t hm46 ).trans hf47
  have hm58 := sb55 _ hm46
  subst er53
  exact ret_i (ty := .int) hx hb hr hlocks (rfl) hP hD hS (Nat.le_of_ble_eq_true rfl) (Nat.le_of_ble_eq_true rfl) (⟨rfl, hfr56, hsb57⟩) dX5_actOf_53

set_option maxHeartbeats 4000000 in
set_option maxRecDepth 100000 in
theorem k_X5_readLine (l : Launch) (g : GG) (L : List Nat) (f : HP) (sz : Nat) (dp t pa tb : Nat) (rw_p : Nat → Int32) (hm_dp : dp ∈ L) (hf_dp : f dp = .inr (5, [.ref pa, .int 0])) (hm_pa : pa ∈ L) (hf_pa : f pa = .inl (g.2.1 0, 100, .inl (rw_p))) (hm_t : t ∈ L) (hf_t : f t = .inr (8, [.ref tb, .int 0, .int 0, .int 0, .int 0])) : MtI l g yX5_readLine cX5_readLine 5 (some .boolean) ({ frames := 3, cells := 0, slots := 0, locals := 63 }) [.ref dp, .ref t, .int 0] L f sz (fun r u => ∃ (rp : Nat → Int32), u.2 pa = .inl (g.2.1 0, 100, .inl (rp)) ∧ r = 0 ∧ (∀ b, b ∈ L → b ≠ pa → u.2 b = f b) ∧ (∀ b, b ∈ L → b ∈ u.1)) := by
  refine MtI.of (by decide +kernel) (Nat.le_of_ble_eq_true rfl) ?_
  intro p e s m below meth c A hEn hP hD hS ls hl
  obtain ⟨hx, hb, hr, hml, hown, hlocks, hts, hG, hA, hE, hnm⟩ := hEn
  have hown : s.vm.findClass "RulerWord$Plan" = some m.cls := hown
  have hl : lv_has ls 5 [(0, .ref dp), (1, .ref t), (2, .int 0)] := hl
  have hfr0 : ∀ b, b ∈ L → b ≠ pa → f b = f b := fun b hb z0 => rfl
  have hsb0 : ∀ b, b ∈ L → b ∈ L := fun b hb => hb
  refine lv_iconst (v := 0) hx hb dX5_readLine_0 (by decide) ?_
  refine lv_istore_n (lv' := [(3, .int 0), (0, .ref dp), (1, .ref t), (2, .int 0)]) hx hb dX5_readLine_1 rfl hl (by decide) rfl (fun ls hl => ?_)
  refine lv_iload_n hx hb dX5_readLine_2 rfl (lv_at hl 0 rfl) ?_
  refine lv_iconst (v := 4) hx hb dX5_readLine_3 (by decide) ?_
  refine lv_icmp_ge (tgt := 70) hx hb dX5_readLine_4 (by decide) (fun c1 => absurd c1 (by decide)) (fun c1 => ?_)
  refine lv_aload_n hx hb dX5_readLine_7 rfl (lv_at hl 1 rfl) ?_
  refine pl_get (v := .ref pa) hx hb hts (fun w h => mT (inX5 w h)) hown hG.1 hP hm_dp hf_dp rfl 0 (by decide) (hts _ (mT wg_269)) (fun _ h => h) rfl dX5_readLine_8 ?_
  refine lv_iload_n hx hb dX5_readLine_11 rfl (lv_at hl 3 rfl) ?_
  refine lv_iload_n hx hb dX5_readLine_12 rfl (lv_at hl 0 rfl) ?_
  refine lv_iadd hx hb dX5_readLine_13 ?_
  refine lv_topi (fun x2 ex2 => ?_)
  obtain rfl : x2 = 0 := ex2.trans (by decide)
  refine lv_iconst (v := (-1)) hx hb dX5_readLine_14 (by decide) ?_
  refine pl_iast hx hb hG.1 hP hD hS hm_pa 0 hf_pa rfl (by unfold vp_in; decide) dX5_readLine_15 (fun H locs f3 hf5 ho4 hP hD hS => ?_)
  obtain ⟨r6, er6⟩ : ∃ r : Nat → Int32, r = upd (rw_p) (0 : Int32).toNatClampNeg ((-1)) := ⟨_, rfl⟩
  rw [← er6] at hf5
  have hfr7 : ∀ b, b ∈ L → b ≠ pa → f3 b = f b := fun b hb z0 => (ho4 b z0).trans (hfr0 b hb z0)
  have hf8 := (ho4 dp (kno hf_dp hf_pa)).trans hf_dp
  have hf9 := (ho4 t (kno hf_t hf_pa)).trans hf_t
  refine lv_aload_n hx hb dX5_readLine_16 rfl (lv_at hl 2 rfl) ?_
  refine lv_iload_n hx hb dX5_readLine_17 rfl (lv_at hl 0 rfl) ?_
  refine call_r (run_S (rm := { frames := 0, cells := 0, slots := 0, locals := 0 }) hx hb hml hown hts (k_X5_wordOf_0 l g _ _ _ ) cS_X5_wordOf wg_685 ⟨Nat.le_of_ble_eq_true rfl, Nat.le_of_ble_eq_true rfl⟩ hG hE hA hP hD hS rfl hl.1 (As := [.int 0]) (rest := [.ref t]) rfl (Nat.le_of_ble_eq_true rfl) dX5_readLine_18 ⟨Nat.le_of_ble_eq_true rfl, Nat.le_of_ble_eq_true rfl⟩) hA hD hS (fun r10 L11 f12 H locs hp13 hP hD hS => ?_)
  obtain ⟨er14, fr15, sb16⟩ := hp13
  have hfr17 : ∀ b, b ∈ L → b ≠ pa → f12 b = f b := fun b hb z0 => (fr15 b (hsb0 b hb) ).trans (hfr7 b hb z0)
  have hsb18 : ∀ b, b ∈ L → b ∈ L11 := fun b hb => sb16 b (hsb0 b hb)
  have hf20 := (fr15 dp hm_dp ).trans hf8
  have hm19 := sb16 _ hm_dp
  have hf22 := (fr15 pa hm_pa ).trans hf5
  have hm21 := sb16 _ hm_pa
  have hf24 := (fr15 t hm_t ).trans hf9
  have hm23 := sb16 _ hm_t
  subst er14
  refine call_i (run_VN (rm := { frames := 0, cells := 0, slots := 0, locals := 0 }) hx hb hml hown hts (k_X8_isWord l g _ _ _ t (g.2.2.1 8) tb hm23 hf24) cV_X8_isWord wn_692 ⟨Nat.le_of_ble_eq_true rfl, Nat.le_of_ble_eq_true rfl⟩ hG hE hA hP hD hS hm23 hf24 rfl rfl hl.1 (As := [.ref (g.2.2.1 8)]) (rest := []) rfl (Nat.le_of_ble_eq_true rfl) dX5_readLine_21 ⟨Nat.le_of_ble_eq_true rfl, Nat.le_of_ble_eq_true rfl⟩) hA hD hS (fun r25 L26 f27 H locs hp28 hP hD hS => ?_)
  obtain ⟨er29, fr30, sb31⟩ := hp28
  have hfr32 : ∀ b, b ∈ L → b ≠ pa → f27 b = f b := fun b hb z0 => (fr30 b (hsb18 b hb) ).trans (hfr17 b hb z0)
  have hsb33 : ∀ b, b ∈ L → b ∈ L26 := fun b hb => sb31 b (hsb18 b hb)
  have hf35 := (fr30 dp hm19 ).trans hf20
  have hm34 := sb31 _ hm19
  have hf37 := (fr30 pa hm21 ).trans hf22
  have hm36 := sb31 _ hm21
  have hf39 := (fr30 t hm23 ).trans hf24
  have hm38 := sb31 _ hm23
  subst er29
  refine lv_if_eq (tgt := 64) hx hb dX5_readLine_24 (by decide) (fun c40 => ?_) (fun c40 => absurd (by decide) c40)
  refine lv_iinc (v := 1) (lv' := [(3, .int 1), (0, .ref dp), (1, .ref t), (2, .int 0)]) hx hb dX5_readLine_64 hl (k := 0) rfl (by decide) (by decide) rfl (fun ls hl => ?_)
  refine lv_goto (tgt := 2) hx hb dX5_readLine_67 (by decide) ?_
  refine lv_iload_n hx hb dX5_readLine_2 rfl (lv_at hl 0 rfl) ?_
  refine lv_iconst (v := 4) hx hb dX5_readLine_3 (by decide) ?_
  refine lv_icmp_ge (tgt := 70) hx hb dX5_readLine_4 (by decide) (fun c41 => absurd c41 (by decide)) (fun c41 => ?_)
  refine lv_aload_n hx hb dX5_readLine_7 rfl (lv_at hl 1 rfl) ?_
  refine pl_get (v := .ref pa) hx hb hts (fun w h => mT (inX5 w h)) hown hG.1 hP hm34 hf35 rfl 0 (by decide) (hts _ (mT wg_269)) (fun _ h => h) rfl dX5_readLine_8 ?_
  refine lv_iload_n hx hb dX5_readLine_11 rfl (lv_at hl 3 rfl) ?_
  refine lv_iload_n hx hb dX5_readLine_12 rfl (lv_at hl 0 rfl) ?_
  refine lv_iadd hx hb dX5_readLine_13 ?_
  refine lv_topi (fun x42 ex42 => ?_)
  obtain rfl : x42 = 1 := ex42.trans (by decide)
  refine lv_iconst (v := (-1)) hx hb dX5_readLine_14 (by decide) ?_
  refine pl_iast hx hb hG.1 hP hD hS hm36 0 hf37 rfl (by unfold vp_in; decide) dX5_readLine_15 (fun H locs f43 hf45 ho44 hP hD hS => ?_)
  obtain ⟨r46, er46⟩ : ∃ r : Nat → Int32, r = upd (r6) (1 : Int32).toNatClampNeg ((-1)) := ⟨_, rfl⟩
  rw [← er46] at hf45
  have hfr47 : ∀ b, b ∈ L → b ≠ pa → f43 b = f b := fun b hb z0 => (ho44 b z0).trans (hfr32 b hb z0)
  have hf48 := (ho44 dp (kno hf35 hf37)).trans hf35
  have hf49 := (ho44 t (kno hf39 hf37)).trans hf39
  refine lv_aload_n hx hb dX5_readLine_16 rfl (lv_at hl 2 rfl) ?_
  refine lv_iload_n hx hb dX5_readLine_17 rfl (lv_at hl 0 rfl) ?_
  refine call_r (run_S (rm := { frames := 0, cells := 0, slots := 0, locals := 0 }) hx hb hml hown hts (k_X5_wordOf_1 l g _ _ _ ) cS_X5_wordOf wg_685 ⟨Nat.le_of_ble_eq_true rfl, Nat.le_of_ble_eq_true rfl⟩ hG hE hA hP hD hS rfl hl.1 (As := [.int 1]) (rest := [.ref t]) rfl (Nat.le_of_ble_eq_true rfl) dX5_readLine_18 ⟨Nat.le_of_ble_eq_true rfl, Nat.le_of_ble_eq_true rfl⟩) hA hD hS (fun r50 L51 f52 H locs hp53 hP hD hS => ?_)
  obtain ⟨er54, fr55, sb56⟩ := hp53
  have hfr57 : ∀ b, b ∈ L → b ≠ pa → f52 b = f b := fun b hb z0 => (fr55 b (hsb33 b hb) ).trans (hfr47 b hb z0)
  have hsb58 : ∀ b, b ∈ L → b ∈ L51 := fun b hb => sb56 b (hsb33 b hb)
  have hf60 := (fr55 dp hm34 ).trans hf48
  have hm59 := sb56 _ hm34
  have hf62 := (fr55 pa hm36 ).trans hf45
  have hm61 := sb56 _ hm36
  have hf64 := (fr55 t hm38 ).trans hf49
  have hm63 := sb56 _ hm38
  subst er54
  refine call_i (run_VN (rm := { frames := 0, cells := 0, slots := 0, locals := 0 }) hx hb hml hown hts (k_X8_isWord l g _ _ _ t (g.2.2.1 9) tb hm63 hf64) cV_X8_isWord wn_692 ⟨Nat.le_of_ble_eq_true rfl, Nat.le_of_ble_eq_true rfl⟩ hG hE hA hP hD hS hm63 hf64 rfl rfl hl.1 (As := [.ref (g.2.2.1 9)]) (rest := []) rfl (Nat.le_of_ble_eq_true rfl) dX5_readLine_21 ⟨Nat.le_of_ble_eq_true rfl, Nat.le_of_ble_eq_true rfl⟩) hA hD hS (fun r65 L66 f67 H locs hp68 hP hD hS => ?_)
  obtain ⟨er69, fr70, sb71⟩ := hp68
  have hfr72 : ∀ b, b ∈ L → b ≠ pa → f67 b = f b := fun b hb z0 => (fr70 b (hsb58 b hb) ).trans (hfr57 b hb z0)
  have hsb73 : ∀ b, b ∈ L → b ∈ L66 := fun b hb => sb71 b (hsb58 b hb)
  have hf75 := (fr70 dp hm59 ).trans hf60
  have hm74 := sb71 _ hm59
  have hf77 := (fr70 pa hm61 ).trans hf62
  have hm76 := sb71 _ hm61
  have hf79 := (fr70 t hm63 ).trans hf64
  have hm78 := sb71 _ hm63
  subst er69
  refine lv_if_eq (tgt := 64) hx hb dX5_readLine_24 (by decide) (fun c80 => ?_) (fun c80 => absurd (by decide) c80)
  refine lv_iinc (v := 2) (lv' := [(3, .int 2), (0, .ref dp), (1, .ref t), (2, .int 0)]) hx hb dX5_readLine_64 hl (k := 0) rfl (by decide) (by decide) rfl (fun ls hl => ?_)
  refine lv_goto (tgt := 2) hx hb dX5_readLine_67 (by decide) ?_
  refine lv_iload_n hx hb dX5_readLine_2 rfl (lv_at hl 0 rfl) ?_
  refine lv_iconst (v := 4) hx hb dX5_readLine_3 (by decide) ?_
  refine lv_icmp_ge (tgt := 70) hx hb dX5_readLine_4 (by decide) (fun c81 => absurd c81 (by decide)) (fun c81 => ?_)
  refine lv_aload_n hx hb dX5_readLine_7 rfl (lv_at hl 1 rfl) ?_
  refine pl_get (v := .ref pa) hx hb hts (fun w h => mT (inX5 w h)) hown hG.1 hP hm74 hf75 rfl 0 (by decide) (hts _ (mT wg_269)) (fun _ h => h) rfl dX5_readLine_8 ?_
  refine lv_iload_n hx hb dX5_readLine_11 rfl (lv_at hl 3 rfl) ?_
  refine lv_iload_n hx hb dX5_readLine_12 rfl (lv_at hl 0 rfl) ?_
  refine lv_iadd hx hb dX5_readLine_13 ?_
  refine lv_topi (fun x82 ex82 => ?_)
  obtain rfl : x82 = 2 := ex82.trans (by decide)
  refine lv_iconst (v := (-1)) hx hb dX5_readLine_14 (by decide) ?_
  refine pl_iast hx hb hG.1 hP hD hS hm76 0 hf77 rfl (by unfold vp_in; decide) dX5_readLine_15 (fun H locs f83 hf85 ho84 hP hD hS => ?_)
  obtain ⟨r86, er86⟩ : ∃ r : Nat → Int32, r = upd (r46) (2 : Int32).toNatClampNeg ((-1)) := ⟨_, rfl⟩
  rw [← er86] at hf85
  have hfr87 : ∀ b, b ∈ L → b ≠ pa → f83 b = f b := fun b hb z0 => (ho84 b z0).trans (hfr72 b hb z0)
  have hf88 := (ho84 dp (kno hf75 hf77)).trans hf75
  have hf89 := (ho84 t (kno hf79 hf77)).trans hf79
  refine lv_aload_n hx hb dX5_readLine_16 rfl (lv_at hl 2 rfl) ?_
  refine lv_iload_n hx hb dX5_readLine_17 rfl (lv_at hl 0 rfl) ?_
  refine call_r (run_S (rm := { frames := 0, cells := 0, slots := 0, locals := 0 }) hx hb hml hown hts (k_X5_wordOf_2 l g _ _ _ ) cS_X5_wordOf wg_685 ⟨Nat.le_of_ble_eq_true rfl, Nat.le_of_ble_eq_true rfl⟩ hG hE hA hP hD hS rfl hl.1 (As := [.int 2]) (rest := [.ref t]) rfl (Nat.le_of_ble_eq_true rfl) dX5_readLine_18 ⟨Nat.le_of_ble_eq_true rfl, Nat.le_of_ble_eq_true rfl⟩) hA hD hS (fun r90 L91 f92 H locs hp93 hP hD hS => ?_)
  obtain ⟨er94, fr95, sb96⟩ := hp93
  have hfr97 : ∀ b, b ∈ L → b ≠ pa → f92 b = f b := fun b hb z0 => (fr95 b (hsb73 b hb) ).trans (hfr87 b hb z0)
  have hsb98 : ∀ b, b ∈ L → b ∈ L91 := fun b hb => sb96 b (hsb73 b hb)
  have hf100 := (fr95 dp hm74 ).trans hf88
  have hm99 := sb96 _ hm74
  have hf102 := (fr95 pa hm76 ).trans hf85
  have hm101 := sb96 _ hm76
  have hf104 := (fr95 t hm78 ).trans hf89
  have hm103 := sb96 _ hm78
  subst er94
  refine call_i (run_VN (rm := { frames := 0, cells := 0, slots := 0, locals := 0 }) hx hb hml hown hts (k_X8_isWord l g _ _ _ t (g.2.2.1 10) tb hm103 hf104) cV_X8_isWord wn_692 ⟨Nat.le_of_ble_eq_true rfl, Nat.le_of_ble_eq_true rfl⟩ hG hE hA hP hD hS hm103 hf104 rfl rfl hl.1 (As := [.ref (g.2.2.1 10)]) (rest := []) rfl (Nat.le_of_ble_eq_true rfl) dX5_readLine_21 ⟨Nat.le_of_ble_eq_true rfl, Nat.le_of_ble_eq_true rfl⟩) hA hD hS (fun r105 L106 f107 H locs hp108 hP hD hS => ?_)
  obtain ⟨er109, fr110, sb111⟩ := hp108
  have hfr112 : ∀ b, b ∈ L → b ≠ pa → f107 b = f b := fun b hb z0 => (fr110 b (hsb98 b hb) ).trans (hfr97 b hb z0)
  have hsb113 : ∀ b, b ∈ L → b ∈ L106 := fun b hb => sb111 b (hsb98 b hb)
  have hf115 := (fr110 dp hm99 ).trans hf100
  have hm114 := sb111 _ hm99
  have hf117 := (fr110 pa hm101 ).trans hf102
  have hm116 := sb111 _ hm101
  have hf119 := (fr110 t hm103 ).trans hf104
  have hm118 := sb111 _ hm103
  subst er109
  refine lv_if_eq (tgt := 64) hx hb dX5_readLine_24 (by decide) (fun c120 => ?_) (fun c120 => absurd (by decide) c120)
  refine lv_iinc (v := 3) (lv' := [(3, .int 3), (0, .ref dp), (1, .ref t), (2, .int 0)]) hx hb dX5_readLine_64 hl (k := 0) rfl (by decide) (by decide) rfl (fun ls hl => ?_)
  refine lv_goto (tgt := 2) hx hb dX5_readLine_67 (by decide) ?_
  refine lv_iload_n hx hb dX5_readLine_2 rfl (lv_at hl 0 rfl) ?_
  refine lv_iconst (v := 4) hx hb dX5_readLine_3 (by decide) ?_
  refine lv_icmp_ge (tgt := 70) hx hb dX5_readLine_4 (by decide) (fun c121 => absurd c121 (by decide)) (fun c121 => ?_)
  refine lv_aload_n hx hb dX5_readLine_7 rfl (lv_at hl 1 rfl) ?_
  refine pl_get (v := .ref pa) hx hb hts (fun w h => mT (inX5 w h)) hown hG.1 hP hm114 hf115 rfl 0 (by decide) (hts _ (mT wg_269)) (fun _ h => h) rfl dX5_readLine_8 ?_
  refine lv_iload_n hx hb dX5_readLine_11 rfl (lv_at hl 3 rfl) ?_
  refine lv_iload_n hx hb dX5_readLine_12 rfl (lv_at hl 0 rfl) ?_
  refine lv_iadd hx hb dX5_readLine_13 ?_
  refine lv_topi (fun x122 ex122 => ?_)
  obtain rfl : x122 = 3 := ex122.trans (by decide)
  refine lv_iconst (v := (-1)) hx hb dX5_readLine_14 (by decide) ?_
  refine pl_iast hx hb hG.1 hP hD hS hm116 0 hf117 rfl (by unfold vp_in; decide) dX5_readLine_15 (fun H locs f123 hf125 ho124 hP hD hS => ?_)
  obtain ⟨r126, er126⟩ : ∃ r : Nat → Int32, r = upd (r86) (3 : Int32).toNatClampNeg ((-1)) := ⟨_, rfl⟩
  rw [← er126] at hf125
  have hfr127 : ∀ b, b ∈ L → b ≠ pa → f123 b = f b := fun b hb z0 => (ho124 b z0).trans (hfr112 b hb z0)
  have hf128 := (ho124 dp (kno hf115 hf117)).trans hf115
  have hf129 := (ho124 t (kno hf119 hf117)).trans hf119
  refine lv_aload_n hx hb dX5_readLine_16 rfl (lv_at hl 2 rfl) ?_
  refine lv_iload_n hx hb dX5_readLine_17 rfl (lv_at hl 0 rfl) ?_
  refine call_r (run_S (rm := { frames := 0, cells := 0, slots := 0, locals := 0 }) hx hb hml hown hts (k_X5_wordOf_3 l g _ _ _ ) cS_X5_wordOf wg_685 ⟨Nat.le_of_ble_eq_true rfl, Nat.le_of_ble_eq_true rfl⟩ hG hE hA hP hD hS rfl hl.1 (As := [.int 3]) (rest := [.ref t]) rfl (Nat.le_of_ble_eq_true rfl) dX5_readLine_18 ⟨Nat.le_of_ble_eq_true rfl, Nat.le_of_ble_eq_true rfl⟩) hA hD hS (fun r130 L131 f132 H locs hp133 hP hD hS => ?_)
  obtain ⟨er134, fr135, sb136⟩ := hp133
  have hfr137 : ∀ b, b ∈ L → b ≠ pa → f132 b = f b := fun b hb z0 => (fr135 b (hsb113 b hb) ).trans (hfr127 b hb z0)
  have hsb138 : ∀ b, b ∈ L → b ∈ L131 := fun b hb => sb136 b (hsb113 b hb)
  have hf140 := (fr135 dp hm114 ).trans hf128
  have hm139 := sb136 _ hm114
  have hf142 := (fr135 pa hm116 ).trans hf125
  have hm141 := sb136 _ hm116
  have hf144 := (fr135 t hm118 ).trans hf129
  have hm143 := sb136 _ hm118
  subst er134
  refine call_i (run_VN (rm := { frames := 0, cells := 0, slots := 0, locals := 0 }) hx hb hml hown hts (k_X8_isWord l g _ _ _ t (g.2.2.1 11) tb hm143 hf144) cV_X8_isWord wn_692 ⟨Nat.le_of_ble_eq_true rfl, Nat.le_of_ble_eq_true rfl⟩ hG hE hA hP hD hS hm143 hf144 rfl rfl hl.1 (As := [.ref (g.2.2.1 11)]) (rest := []) rfl (Nat.le_of_ble_eq_true rfl) dX5_readLine_21 ⟨Nat.le_of_ble_eq_true rfl, Nat.le_of_ble_eq_true rfl⟩) hA hD hS (fun r145 L146 f147 H locs hp148 hP hD hS => ?_)
  obtain ⟨er149, fr150, sb151⟩ := hp148
  have hfr152 : ∀ b, b ∈ L → b ≠ pa → f147 b = f b := fun b hb z0 => (fr150 b (hsb138 b hb) ).trans (hfr137 b hb z0)
  have hsb153 : ∀ b, b ∈ L → b ∈ L146 := fun b hb => sb151 b (hsb138 b hb)
  have hf155 := (fr150 dp hm139 ).trans hf140
  have hm154 := sb151 _ hm139
  have hf157 := (fr150 pa hm141 ).trans hf142
  have hm156 := sb151 _ hm141
  have hf159 := (fr150 t hm143 ).trans hf144
  have hm158 := sb151 _ hm143
  subst er149
  refine lv_if_eq (tgt := 64) hx hb dX5_readLine_24 (by decide) (fun c160 => ?_) (fun c160 => absurd (by decide) c160)
  refine lv_iinc (v := 4) (lv' := [(3, .int 4), (0, .ref dp), (1, .ref t), (2, .int 0)]) hx hb dX5_readLine_64 hl (k := 0) rfl (by decide) (by decide) rfl (fun ls hl => ?_)
  refine lv_goto (tgt := 2) hx hb dX5_readLine_67 (by decide) ?_
  refine lv_iload_n hx hb dX5_readLine_2 rfl (lv_at hl 0 rfl) ?_
  refine lv_iconst (v := 4) hx hb dX5_readLine_3 (by decide) ?_
  refine lv_icmp_ge (tgt := 70) hx hb dX5_readLine_4 (by decide) (fun c161 => ?_) (fun c161 => absurd (by decide) c161)
  refine lv_aload_n hx hb dX5_readLine_70 rfl (lv_at hl 1 rfl) ?_
  refine pl_get (v := .ref pa) hx hb hts (fun w h => mT (inX5 w h)) hown hG.1 hP hm154 hf155 rfl 0 (by decide) (hts _ (mT wg_269)) (fun _ h => h) rfl dX5_readLine_71 ?_
  refine lv_iload_n hx hb dX5_readLine_74 rfl (lv_at hl 3 rfl) ?_
  refine lv_iconst (v := 4) hx hb dX5_readLine_75 (by decide) ?_
  refine lv_iadd hx hb dX5_readLine_76 ?_
  refine lv_topi (fun x162 ex162 => ?_)
  obtain rfl : x162 = 4 := ex162.trans (by decide)
  refine lv_aload_n hx hb dX5_readLine_77 rfl (lv_at hl 2 rfl) ?_
  refine call_i (run_S (rm := { frames := 2, cells := 0, slots := 0, locals := 43 }) hx hb hml hown hts (k_X5_actOf l g _ _ _ t tb hm158 hf159) cS_X5_actOf wg_698 ⟨Nat.le_of_ble_eq_true rfl, Nat.le_of_ble_eq_true rfl⟩ hG hE hA hP hD hS rfl hl.1 (As := [.ref t]) (rest := [.int 4, .ref pa]) rfl (Nat.le_of_ble_eq_true rfl) dX5_readLine_78 ⟨Nat.le_of_ble_eq_true rfl, Nat.le_of_ble_eq_true rfl⟩) hA hD hS (fun r163 L164 f165 H locs hp166 hP hD hS => ?_)
  obtain ⟨er167, fr168, sb169⟩ := hp166
  have hfr170 : ∀ b, b ∈ L → b ≠ pa → f165 b = f b := fun b hb z0 => (fr168 b (hsb153 b hb) ).trans (hfr152 b hb z0)
  have hsb171 : ∀ b, b ∈ L → b ∈ L164 := fun b hb => sb169 b (hsb153 b hb)
  have hf173 := (fr168 dp hm154 ).trans hf155
  have hm172 := sb169 _ hm154
  have hf175 := (fr168 pa hm156 ).trans hf157
  have hm174 := sb169 _ hm156
  have hf177 := (fr168 t hm158 ).trans hf159
  have hm176 := sb169 _ hm158
  subst er167
  refine pl_iast hx hb hG.1 hP hD hS hm174 0 hf175 rfl (by unfold vp_in; decide) dX5_readLine_81 (fun H locs f178 hf180 ho179 hP hD hS => ?_)
  obtain ⟨r181, er181⟩ : ∃ r : Nat → Int32, r = upd (r126) (4 : Int32).toNatClampNeg ((-1)) := ⟨_, rfl⟩
  rw [← er181] at hf180
  have hfr182 : ∀ b, b ∈ L → b ≠ pa → f178 b = f b := fun b hb z0 => (ho179 b z0).trans (hfr170 b hb z0)
  have hf183 := (ho179 dp (kno hf173 hf175)).trans hf173
  have hf184 := (ho179 t (kno hf177 hf175)).trans hf177
  refine lv_aload_n hx hb dX5_readLine_82 rfl (lv_at hl 1 rfl) ?_
  refine pl_get (v := .ref pa) hx hb hts (fun w h => mT (inX5 w h)) hown hG.1 hP hm172 hf183 rfl 0 (by decide) (hts _ (mT wg_269)) (fun _ h => h) rfl dX5_readLine_83 ?_
  refine lv_iload_n hx hb dX5_readLine_86 rfl (lv_at hl 3 rfl) ?_
  refine lv_iconst (v := 4) hx hb dX5_readLine_87 (by decide) ?_
  refine lv_iadd hx hb dX5_readLine_88 ?_
  refine lv_topi (fun x185 ex185 => ?_)
  obtain rfl : x185 = 4 := ex185.trans (by decide)
  refine pl_iald hx hb hG.1 hP hm174 0 hf180 rfl (by unfold vp_in; decide) dX5_readLine_89 ?_
  refine lv_topi (fun x186 ex186 => ?_)
  obtain rfl : x186 = (-1) := ex186.trans (by rw [er181]; rfl)
  refine lv_iconst (v := (-1)) hx hb dX5_readLine_90 (by decide) ?_
  refine lv_icmp_eq (tgt := 98) hx hb dX5_readLine_91 (by decide) (fun c187 => ?_) (fun c187 => absurd (by decide) c187)
  refine lv_iconst (v := 0) hx hb dX5_readLine_98 (by decide) ?_
  exact ret_i (ty := .boolean) hx hb hr hlocks (rfl) hP hD hS (Nat.le_of_ble_eq_true rfl) (Nat.le_of_ble_eq_true rfl) (⟨r181, hf180, rfl, hfr182, hsb171⟩) dX5_readLine_99

set_option maxHeartbeats 4000000 in
set_option maxRecDepth 100000 in
theorem k_X5_readFrom (l : Launch) (g : GG) (L : List Nat) (f : HP) (sz : Nat) (dp t pa tb : Nat) (rw_p : Nat → Int32) (hm_dp : dp ∈ L) (hf_dp : f dp = .inr (5, [.ref pa, .int 0])) (hm_pa : pa ∈ L) (hf_pa : f pa = .inl (g.2.1 0, 100, .inl (rw_p))) (hm_t : t ∈ L) (hf_t : f t = .inr (8, [.ref tb, .int 0, .int 0, .int 0, .int 0])) : MtI l g yX5_readFrom cX5_readFrom 3 (some .int) ({ frames := 4, cells := 0, slots := 0, locals := 87 }) [.ref dp, .ref t] L f sz (fun r u => ∃ (rp : Nat → Int32), u.2 dp = .inr (5, [.ref pa, .int 0]) ∧ u.2 pa = .inl (g.2.1 0, 100, .inl (rp)) ∧ u.2 t = .inr (8, [.ref tb, .int 0, .int 0, .int 0, .int 0]) ∧ r = 0 ∧ (∀ b, b ∈ L → b ≠ dp → b ≠ pa → b ≠ t → u.2 b = f b) ∧ (∀ b, b ∈ L → b ∈ u.1)) := by
  refine MtI.of (by decide +kernel) (Nat.le_of_ble_eq_true rfl) ?_
  intro p e s m below meth c A hEn hP hD hS ls hl
  obtain ⟨hx, hb, hr, hml, hown, hlocks, hts, hG, hA, hE, hnm⟩ := hEn
  have hown : s.vm.findClass "RulerWord$Plan" = some m.cls := hown
  have hl : lv_has ls 3 [(0, .ref dp), (1, .ref t)] := hl
  have hfr0 : ∀ b, b ∈ L → b ≠ dp → b ≠ pa → b ≠ t → f b = f b := fun b hb z0 z1 z2 => rfl
  have hsb0 : ∀ b, b ∈ L → b ∈ L := fun b hb => hb
  refine lv_aload_n hx hb dX5_readFrom_0 rfl (lv_at hl 0 rfl) ?_
  refine lv_iconst (v := 0) hx hb dX5_readFrom_1 (by decide) ?_
  refine pl_put (ty := .int) (v := .int 0) (fs' := [.ref pa, .int 0]) hx hb hts (fun w h => mT (inX5 w h)) tyX5 tyX5_ok nmX5 hown hG.1 hP hD hS hm_dp hf_dp rfl 1 (by decide) (hts _ (mT wg_270)) (fun _ h => h) rfl (by decide +kernel) (rfl) (rfl) (Nat.le_of_ble_eq_true rfl) rfl dX5_readFrom_2 (fun H locs f1 hf3 ho2 hP hD hS => ?_)
  have hfr4 : ∀ b, b ∈ L → b ≠ dp → b ≠ pa → b ≠ t → f1 b = f b := fun b hb z0 z1 z2 => (ho2 b z0).trans (hfr0 b hb z0 z1 z2)
  have hf5 := (ho2 pa (kno hf_dp hf_pa).symm).trans hf_pa
  have hf6 := (ho2 t (kne hf_t hf_dp (by decide))).trans hf_t
  refine lv_aload_n hx hb dX5_readFrom_5 rfl (lv_at hl 1 rfl) ?_
  refine call_v (run_VN (rm := { frames := 1, cells := 0, slots := 0, locals := 22 }) hx hb hml hown hts (k_X8_firstPart l g _ _ _ t tb 0 0 0 hm_t hf6) cV_X8_firstPart wn_680 ⟨Nat.le_of_ble_eq_true rfl, Nat.le_of_ble_eq_true rfl⟩ hG hE hA hP hD hS hm_t hf6 rfl rfl hl.1 (As := []) (rest := []) rfl (Nat.le_of_ble_eq_true rfl) dX5_readFrom_6 ⟨Nat.le_of_ble_eq_true rfl, Nat.le_of_ble_eq_true rfl⟩) hA hD hS (fun L8 f9 H locs hp10 hP hD hS => ?_)
  obtain ⟨hf11, fr12, sb13⟩ := hp10
  have hfr14 : ∀ b, b ∈ L → b ≠ dp → b ≠ pa → b ≠ t → f9 b = f b := fun b hb z0 z1 z2 => (fr12 b (hsb0 b hb) z2).trans (hfr4 b hb z0 z1 z2)
  have hsb15 : ∀ b, b ∈ L → b ∈ L8 := fun b hb => sb13 b (hsb0 b hb)
  have hf17 := (fr12 dp hm_dp (kne hf3 hf6 (by decide))).trans hf3
  have hm16 := sb13 _ hm_dp
  have hf19 := (fr12 pa hm_pa (kno hf6 hf5).symm).trans hf5
  have hm18 := sb13 _ hm_pa
  have hm20 := sb13 _ hm_t
  refine lv_iconst (v := 0) hx hb dX5_readFrom_9 (by decide) ?_
  refine lv_istore_n (lv' := [(2, .int 0), (0, .ref dp), (1, .ref t)]) hx hb dX5_readFrom_10 rfl hl (by decide) rfl (fun ls hl => ?_)
  refine lv_iload_n hx hb dX5_readFrom_11 rfl (lv_at hl 0 rfl) ?_
  refine lv_bipush (v := 20) hx hb dX5_readFrom_12 (by decide) ?_
  refine lv_icmp_ge (tgt := 76) hx hb dX5_readFrom_14 (by decide) (fun c21 => absurd c21 (by decide)) (fun c21 => ?_)
  refine lv_aload_n hx hb dX5_readFrom_17 rfl (lv_at hl 1 rfl) ?_
  refine lv_aload_n hx hb dX5_readFrom_18 rfl (lv_at hl 2 rfl) ?_
  refine lv_iload_n hx hb dX5_readFrom_19 rfl (lv_at hl 0 rfl) ?_
  refine lv_iconst (v := 5) hx hb dX5_readFrom_20 (by decide) ?_
  refine lv_imul hx hb dX5_readFrom_21 ?_
  refine lv_topi (fun x22 ex22 => ?_)
  obtain rfl : x22 = 0 := ex22.trans (by decide)
  refine call_i (run_V (rm := { frames := 3, cells := 0, slots := 0, locals := 63 }) hx hb hml hown hts (k_X5_readLine l g _ _ _ dp t pa tb (rw_p) hm16 hf17 hm18 hf19 hm20 hf11) cV_X5_readLine wg_681 ⟨Nat.le_of_ble_eq_true rfl, Nat.le_of_ble_eq_true rfl⟩ hG hE hA hP hD hS hm16 hf17 rfl rfl hl.1 (As := [.ref t, .int 0]) (rest := []) rfl (Nat.le_of_ble_eq_true rfl) dX5_readFrom_22 ⟨Nat.le_of_ble_eq_true rfl, Nat.le_of_ble_eq_true rfl⟩) hA hD hS (fun r23 L24 f25 H locs hp26 hP hD hS => ?_)
  obtain ⟨r27, hf28, er29, fr30, sb31⟩ := hp26
  have hfr32 : ∀ b, b ∈ L → b ≠ dp → b ≠ pa → b ≠ t → f25 b = f b := fun b hb z0 z1 z2 => (fr30 b (hsb15 b hb) z1).trans (hfr14 b hb z0 z1 z2)
  have hsb33 : ∀ b, b ∈ L → b ∈ L24 := fun b hb => sb31 b (hsb15 b hb)
  have hf35 := (fr30 dp hm16 (kno hf17 hf19)).trans hf17
  have hm34 := sb31 _ hm16
  have hm36 := sb31 _ hm18
  have hf38 := (fr30 t hm20 (kno hf11 hf19)).trans hf11
  have hm37 := sb31 _ hm20
  subst er29
  refine lv_if_ne (tgt := 33) hx hb dX5_readFrom_25 (by decide) (fun c39 => absurd rfl c39) (fun c39 => ?_)
  refine lv_aload_n hx hb dX5_readFrom_28 rfl (lv_at hl 2 rfl) ?_
  refine pl_getN (v := .int 0) hx hb hts (fun w h => mT (inX8 w h)) hown hG.1 hP hm37 hf38 rfl 2 (by decide) (hG.2.1 _ wn_200) (fun _ h => h) rfl dX5_readFrom_29 ?_
  exact ret_i (ty := .int) hx hb hr hlocks (rfl) hP hD hS (Nat.le_of_ble_eq_true rfl) (Nat.le_of_ble_eq_true rfl) (⟨r27, hf35, hf28, hf38, rfl, hfr32, hsb33⟩) dX5_readFrom_32

set_option maxHeartbeats 4000000 in
theorem k_J0_coder (l : Launch) (g : GG) (L : List Nat) (f : HP) (sz : Nat) (i : Nat) (hi : i < nS) : MtI l g yJ0_coder_7d493 cJ0_coder_7d493 1 (some .byte) ({ frames := 0, cells := 0, slots := 0, locals := 0 }) [.ref (g.2.2.1 i)] L f sz (fun r u => u.1 = L ∧ u.2 = f ∧ r = 0) := by
  refine MtI.of (by decide +kernel) (Nat.le_of_ble_eq_true rfl) ?_
  intro p e s m below meth c A hEn hP hD hS ls hl
  obtain ⟨hx, hb, hr, hml, hown, hlocks, hts, hG, hA, hE, hnm⟩ := hEn
  have hown : s.vm.findClass "java/lang/String" = some m.cls := hown
  have hl : lv_has ls 1 [(0, .ref (g.2.2.1 i))] := hl
  refine va_gets hx hb hE.2 hS hown (hts _ (mT wg_582)) (fun _ h => h) dJ0_coder_7d493_0 ?_
  refine lv_if_eq (tgt := 13) hx hb dJ0_coder_7d493_3 (by decide) (fun c1 => absurd c1 (by decide)) (fun c1 => ?_)
  refine lv_aload_n hx hb dJ0_coder_7d493_6 rfl (lv_at hl 0 rfl) ?_
  refine vk_getf hx hb (hE.1 i hi).2.1 hS hown (hts _ (mT wg_1972)) (fun _ h => h) dJ0_coder_7d493_7 ?_
  refine lv_goto (tgt := 14) hx hb dJ0_coder_7d493_10 (by decide) ?_
  exact ret_i (ty := .byte) hx hb hr hlocks (rfl) hP hD hS (Nat.le_of_ble_eq_true rfl) (Nat.le_of_ble_eq_true rfl) ⟨rfl, rfl, rfl⟩ dJ0_coder_7d493_14
theorem shr0 (x : Int32) : x >>> ((0 : Int32) &&& 31) = x := by
  have e : (0 : Int32) &&& 31 = 0 := by decide
  rw [e]
  exact Int32.shiftRight_zero
set_option maxHeartbeats 4000000 in
theorem k_J0_length (l : Launch) (g : GG) (L : List Nat) (f : HP) (sz : Nat) (i : Nat) (hi : i < nS) : MtI l g yJ0_length_8abf5 cJ0_length_8abf5 1 (some .int) ({ frames := 1, cells := 0, slots := 0, locals := 20 }) [.ref (g.2.2.1 i)] L f sz (fun r u => u.1 = L ∧ u.2 = f ∧ r = Int32.ofNat (lenS.getD i 0)) := by
  refine MtI.of (by decide +kernel) (Nat.le_of_ble_eq_true rfl) ?_
  intro p e s m below meth c A hEn hP hD hS ls hl
  obtain ⟨hx, hb, hr, hml, hown, hlocks, hts, hG, hA, hE, hnm⟩ := hEn
  have hown : s.vm.findClass "java/lang/String" = some m.cls := hown
  have hl : lv_has ls 1 [(0, .ref (g.2.2.1 i))] := hl
  refine lv_aload_n hx hb dJ0_length_8abf5_0 rfl (lv_at hl 0 rfl) ?_
  refine vk_getf hx hb (hE.1 i hi).2.2.1 hS hown (hts _ (mT wg_1971)) (fun _ h => h) dJ0_length_8abf5_1 ?_
  refine va_tlen hx hb (hE.1 i hi).2.2.2 hS rfl dJ0_length_8abf5_4 ?_
  refine lv_aload_n hx hb dJ0_length_8abf5_5 rfl (lv_at hl 0 rfl) ?_
  refine call_i (run_VJ (rm := { frames := 0, cells := 0, slots := 0, locals := 0 }) hx hb hml hown hts (i := i) hi (k_J0_coder l g _ _ _ i hi) cV_J0_coder_7d493 wg_578 rfl ⟨Nat.le_of_ble_eq_true rfl, Nat.le_of_ble_eq_true rfl⟩ hG hE hA hP hD hS rfl hl.1 (As := []) (rest := [.int (Int32.ofNat (lenS.getD i 0))]) rfl (Nat.le_of_ble_eq_true rfl) dJ0_length_8abf5_6 ⟨Nat.le_of_ble_eq_true rfl, Nat.le_of_ble_eq_true rfl⟩) hA hD hS (fun r L2 f2 H locs hp hP hD hS => ?_)
  obtain ⟨e1, e2, e3⟩ : L2 = _ ∧ f2 = _ ∧ r = 0 := hp
  rw [e1, e2] at hP hD
  subst e3
  refine lv_ishr hx hb dJ0_length_8abf5_9 ?_
  refine lv_topi (fun x1 ex1 => ?_)
  obtain rfl : x1 = Int32.ofNat (lenS.getD i 0) := ex1.trans (shr0 _)
  exact ret_i (ty := .int) hx hb hr hlocks (rfl) hP hD hS (Nat.le_of_ble_eq_true rfl) (Nat.le_of_ble_eq_true rfl) ⟨rfl, rfl, rfl⟩ dJ0_length_8abf5_10
set_option maxHeartbeats 4000000 in
set_option maxRecDepth 100000 in
theorem k_X11_here (l : Launch) (g : GG) (L : List Nat) (f : HP) (sz : Nat) (mo ar1 ar7 ar10 ar11 ar24 ar26 ar27 ar28 ar29 ar30 ar31 ar32 ar33 ar34 ar35 ar41 ar42 ar43 ar44 ar49 ar52 ar54 : Nat) (z4 : Int32) (z8 : Int32) (z13 : Int32) (hm_mo : mo ∈ L) (hf_mo : f mo = .inr (10, [.int 0, .ref ar1, .int 0, .int 0, .int z4, .int 0, .int 0, .ref ar7, .int z8, .int 0, .ref ar10, .ref ar11, .int 0, .int z13, .int 0, .int 0, .int 0, .int 0, .int 0, .int 0, .int 0, .long 0, .long 0, .int 0, .ref ar24, .int 0, .ref ar26, .ref ar27, .ref ar28, .ref ar29, .ref ar30, .ref ar31, .ref ar32, .ref ar33, .ref ar34, .ref ar35, .int 0, .int 0, .int 0, .int 0, .int 0, .ref ar41, .ref ar42, .ref ar43, .ref ar44, .long 0, .long 0, .int 0, .int 0, .ref ar49, .int 0, .int 0, .ref ar52, .int 0, .ref ar54, .int 0])) : MtI l g yX11_here cX11_here 1 (some .int) ({ frames := 0, cells := 0, slots := 0, locals := 0 }) [.ref mo] L f sz (fun r u => r = (-1) ∧ (∀ b, b ∈ L → u.2 b = f b) ∧ (∀ b, b ∈ L → b ∈ u.1)) := by
  refine MtI.of (by decide +kernel) (Nat.le_of_ble_eq_true rfl) ?_
  intro p e s m below meth c A hEn hP hD hS ls hl
  obtain ⟨hx, hb, hr, hml, hown, hlocks, hts, hG, hA, hE, hnm⟩ := hEn
  have hown : s.vm.findClass "RulerWordModel" = some m.cls := hown
  have hl : lv_has ls 1 [(0, .ref mo)] := hl
  have hfr0 : ∀ b, b ∈ L → f b = f b := fun b hb  => rfl
  have hsb0 : ∀ b, b ∈ L → b ∈ L := fun b hb => hb
  refine lv_aload_n hx hb dX11_here_0 rfl (lv_at hl 0 rfl) ?_
  refine pl_get (v := .int 0) hx hb hts (fun w h => mT (inX11 w h)) hown hG.1 hP hm_mo hf_mo rfl 3 (by decide) (hts _ (mT wg_1339)) (fun _ h => h) rfl dX11_here_1 ?_
  refine lv_aload_n hx hb dX11_here_4 rfl (lv_at hl 0 rfl) ?_
  refine pl_get (v := .int 0) hx hb hts (fun w h => mT (inX11 w h)) hown hG.1 hP hm_mo hf_mo rfl 2 (by decide) (hts _ (mT wg_1338)) (fun _ h => h) rfl dX11_here_5 ?_
  refine lv_icmp_ge (tgt := 27) hx hb dX11_here_8 (by decide) (fun c1 => ?_) (fun c1 => absurd (by decide) c1)
  refine lv_iconst (v := (-1)) hx hb dX11_here_27 (by decide) ?_
  exact ret_i (ty := .int) hx hb hr hlocks (rfl) hP hD hS (Nat.le_of_ble_eq_true rfl) (Nat.le_of_ble_eq_true rfl) (⟨rfl, hfr0, hsb0⟩) dX11_here_28

set_option maxHeartbeats 4000000 in
set_option maxRecDepth 100000 in
theorem k_X11_look (l : Launch) (g : GG) (L : List Nat) (f : HP) (sz : Nat) (mo ar1 ar7 ar10 ar11 ar24 ar26 ar27 ar28 ar29 ar30 ar31 ar32 ar33 ar34 ar35 ar41 ar42 ar43 ar44 ar49 ar52 ar54 : Nat) (z4 : Int32) (z8 : Int32) (z13 : Int32) (hm_mo : mo ∈ L) (hf_mo : f mo = .inr (10, [.int 0, .ref ar1, .int 0, .int 0, .int z4, .int 0, .int 0, .ref ar7, .int z8, .int 0, .ref ar10, .ref ar11, .int 0, .int z13, .int 0, .int 0, .int 0, .int 0, .int 0, .int 0, .int 0, .long 0, .long 0, .int 0, .ref ar24, .int 0, .ref ar26, .ref ar27, .ref ar28, .ref ar29, .ref ar30, .ref ar31, .ref ar32, .ref ar33, .ref ar34, .ref ar35, .int 0, .int 0, .int 0, .int 0, .int 0, .ref ar41, .ref ar42, .ref ar43, .ref ar44, .long 0, .long 0, .int 0, .int 0, .ref ar49, .int 0, .int 0, .ref ar52, .int 0, .ref ar54, .int 0])) : MtI l g yX11_look cX11_look 1 (some .int) ({ frames := 1, cells := 0, slots := 0, locals := 20 }) [.ref mo] L f sz (fun r u => r = (-1) ∧ (∀ b, b ∈ L → u.2 b = f b) ∧ (∀ b, b ∈ L → b ∈ u.1)) := by
  refine MtI.of (by decide +kernel) (Nat.le_of_ble_eq_true rfl) ?_
  intro p e s m below meth c A hEn hP hD hS ls hl
  obtain ⟨hx, hb, hr, hml, hown, hlocks, hts, hG, hA, hE, hnm⟩ := hEn
  have hown : s.vm.findClass "RulerWordModel" = some m.cls := hown
  have hl : lv_has ls 1 [(0, .ref mo)] := hl
  have hfr0 : ∀ b, b ∈ L → f b = f b := fun b hb  => rfl
  have hsb0 : ∀ b, b ∈ L → b ∈ L := fun b hb => hb
  refine lv_aload_n hx hb dX11_look_0 rfl (lv_at hl 0 rfl) ?_
  refine call_i (run_V (rm := { frames := 0, cells := 0, slots := 0, locals := 0 }) hx hb hml hown hts (k_X11_here l g _ _ _ mo ar1 ar7 ar10 ar11 ar24 ar26 ar27 ar28 ar29 ar30 ar31 ar32 ar33 ar34 ar35 ar41 ar42 ar43 ar44 ar49 ar52 ar54 z4 z8 z13 hm_mo hf_mo) cV_X11_here wg_1537 ⟨Nat.le_of_ble_eq_true rfl, Nat.le_of_ble_eq_true rfl⟩ hG hE hA hP hD hS hm_mo hf_mo rfl rfl hl.1 (As := []) (rest := []) rfl (Nat.le_of_ble_eq_true rfl) dX11_look_1 ⟨Nat.le_of_ble_eq_true rfl, Nat.le_of_ble_eq_true rfl⟩) hA hD hS (fun r1 L2 f3 H locs hp4 hP hD hS => ?_)
  obtain ⟨er5, fr6, sb7⟩ := hp4
  have hfr8 : ∀ b, b ∈ L → f3 b = f b := fun b hb  => (fr6 b (hsb0 b hb) ).trans (hfr0 b hb )
  have hsb9 : ∀ b, b ∈ L → b ∈ L2 := fun b hb => sb7 b (hsb0 b hb)
  have hf11 := (fr6 mo hm_mo ).trans hf_mo
  have hm10 := sb7 _ hm_mo
  subst er5
  refine lv_bipush (v := 32) hx hb dX11_look_4 (by decide) ?_
  refine lv_icmp_ne (tgt := 22) hx hb dX11_look_6 (by decide) (fun c12 => ?_) (fun c12 => absurd c12 (by decide))
  refine lv_aload_n hx hb dX11_look_22 rfl (lv_at hl 0 rfl) ?_
  refine call_i (run_V (rm := { frames := 0, cells := 0, slots := 0, locals := 0 }) hx hb hml hown hts (k_X11_here l g _ _ _ mo ar1 ar7 ar10 ar11 ar24 ar26 ar27 ar28 ar29 ar30 ar31 ar32 ar33 ar34 ar35 ar41 ar42 ar43 ar44 ar49 ar52 ar54 z4 z8 z13 hm10 hf11) cV_X11_here wg_1537 ⟨Nat.le_of_ble_eq_true rfl, Nat.le_of_ble_eq_true rfl⟩ hG hE hA hP hD hS hm10 hf11 rfl rfl hl.1 (As := []) (rest := []) rfl (Nat.le_of_ble_eq_true rfl) dX11_look_23 ⟨Nat.le_of_ble_eq_true rfl, Nat.le_of_ble_eq_true rfl⟩) hA hD hS (fun r13 L14 f15 H locs hp16 hP hD hS => ?_)
  obtain ⟨er17, fr18, sb19⟩ := hp16
  have hfr20 : ∀ b, b ∈ L → f15 b = f b := fun b hb  => (fr18 b (hsb9 b hb) ).trans (hfr8 b hb )
  have hsb21 : ∀ b, b ∈ L → b ∈ L14 := fun b hb => sb19 b (hsb9 b hb)
  have hf23 := (fr18 mo hm10 ).trans hf11
  have hm22 := sb19 _ hm10
  subst er17
  exact ret_i (ty := .int) hx hb hr hlocks (rfl) hP hD hS (Nat.le_of_ble_eq_true rfl) (Nat.le_of_ble_eq_true rfl) (⟨rfl, hfr20, hsb21⟩) dX11_look_26

set_option maxHeartbeats 4000000 in
set_option maxRecDepth 100000 in
theorem k_X11_takes (l : Launch) (g : GG) (L : List Nat) (f : HP) (sz : Nat) (mo ar1 ar7 ar10 ar11 ar24 ar26 ar27 ar28 ar29 ar30 ar31 ar32 ar33 ar34 ar35 ar41 ar42 ar43 ar44 ar49 ar52 ar54 : Nat) (i : Nat) (z4 : Int32) (z8 : Int32) (z13 : Int32) (hm_mo : mo ∈ L) (hf_mo : f mo = .inr (10, [.int 0, .ref ar1, .int 0, .int 0, .int z4, .int 0, .int 0, .ref ar7, .int z8, .int 0, .ref ar10, .ref ar11, .int 0, .int z13, .int 0, .int 0, .int 0, .int 0, .int 0, .int 0, .int 0, .long 0, .long 0, .int 0, .ref ar24, .int 0, .ref ar26, .ref ar27, .ref ar28, .ref ar29, .ref ar30, .ref ar31, .ref ar32, .ref ar33, .ref ar34, .ref ar35, .int 0, .int 0, .int 0, .int 0, .int 0, .ref ar41, .ref ar42, .ref ar43, .ref ar44, .long 0, .long 0, .int 0, .int 0, .ref ar49, .int 0, .int 0, .ref ar52, .int 0, .ref ar54, .int 0])) (hi : i < nS) (hpos : (0 : Int32) < Int32.ofNat (lenS.getD i 0)) : MtI l g yX11_takes cX11_takes 4 (some .boolean) ({ frames := 2, cells := 0, slots := 0, locals := 40 }) [.ref mo, .ref (g.2.2.1 i)] L f sz (fun r u => r = 0 ∧ (∀ b, b ∈ L → u.2 b = f b) ∧ (∀ b, b ∈ L → b ∈ u.1)) := by
  refine MtI.of (by decide +kernel) (Nat.le_of_ble_eq_true rfl) ?_
  intro p e s m below meth c A hEn hP hD hS ls hl
  obtain ⟨hx, hb, hr, hml, hown, hlocks, hts, hG, hA, hE, hnm⟩ := hEn
  have hown : s.vm.findClass "RulerWordModel" = some m.cls := hown
  have hl : lv_has ls 4 [(0, .ref mo), (1, .ref (g.2.2.1 i))] := hl
  have hfr0 : ∀ b, b ∈ L → f b = f b := fun b hb  => rfl
  have hsb0 : ∀ b, b ∈ L → b ∈ L := fun b hb => hb
  refine lv_aload_n hx hb dX11_takes_0 rfl (lv_at hl 0 rfl) ?_
  refine call_i (run_V (rm := { frames := 1, cells := 0, slots := 0, locals := 20 }) hx hb hml hown hts (k_X11_look l g _ _ _ mo ar1 ar7 ar10 ar11 ar24 ar26 ar27 ar28 ar29 ar30 ar31 ar32 ar33 ar34 ar35 ar41 ar42 ar43 ar44 ar49 ar52 ar54 z4 z8 z13 hm_mo hf_mo) cV_X11_look wg_1533 ⟨Nat.le_of_ble_eq_true rfl, Nat.le_of_ble_eq_true rfl⟩ hG hE hA hP hD hS hm_mo hf_mo rfl rfl hl.1 (As := []) (rest := []) rfl (Nat.le_of_ble_eq_true rfl) dX11_takes_1 ⟨Nat.le_of_ble_eq_true rfl, Nat.le_of_ble_eq_true rfl⟩) hA hD hS (fun r1 L2 f3 H locs hp4 hP hD hS => ?_)
  obtain ⟨er5, fr6, sb7⟩ := hp4
  have hfr8 : ∀ b, b ∈ L → f3 b = f b := fun b hb  => (fr6 b (hsb0 b hb) ).trans (hfr0 b hb )
  have hsb9 : ∀ b, b ∈ L → b ∈ L2 := fun b hb => sb7 b (hsb0 b hb)
  have hf11 := (fr6 mo hm_mo ).trans hf_mo
  have hm10 := sb7 _ hm_mo
  subst er5
  refine lv_istore_n (lv' := [(2, .int (-1)), (0, .ref mo), (1, .ref (g.2.2.1 i))]) hx hb dX11_takes_4 rfl hl (by decide) rfl (fun ls hl => ?_)
  refine lv_iconst (v := 0) hx hb dX11_takes_5 (by decide) ?_
  refine lv_istore_n (lv' := [(3, .int 0), (2, .int (-1)), (0, .ref mo), (1, .ref (g.2.2.1 i))]) hx hb dX11_takes_6 rfl hl (by decide) rfl (fun ls hl => ?_)
  refine lv_iload_n hx hb dX11_takes_7 rfl (lv_at hl 0 rfl) ?_
  refine lv_aload_n hx hb dX11_takes_8 rfl (lv_at hl 3 rfl) ?_
  refine call_i (run_VJ (rm := { frames := 1, cells := 0, slots := 0, locals := 20 }) hx hb hml hown hts (i := i) (hi) (k_J0_length l g _ _ _ i (hi)) cV_J0_length_8abf5 wg_1546 rfl ⟨Nat.le_of_ble_eq_true rfl, Nat.le_of_ble_eq_true rfl⟩ hG hE hA hP hD hS rfl hl.1 (As := []) (rest := [.int 0]) rfl (Nat.le_of_ble_eq_true rfl) dX11_takes_9 ⟨Nat.le_of_ble_eq_true rfl, Nat.le_of_ble_eq_true rfl⟩) hA hD hS (fun r12 L13 f14 H locs hp15 hP hD hS => ?_)
  obtain ⟨er16a, er16b, er16⟩ : L13 = _ ∧ f14 = _ ∧ r12 = Int32.ofNat (lenS.getD i 0) := hp15
  rw [er16a, er16b] at hP hD
  refine lv_icmp_ge (tgt := 55) hx hb dX11_takes_12 (by decide) (fun c17 => absurd (er16 ▸ c17) (lt_nle hpos)) (fun c17 => ?_)
  refine lv_aload_n hx hb dX11_takes_15 rfl (lv_at hl 2 rfl) ?_
  refine pl_get (v := .int 0) hx hb hts (fun w h => mT (inX11 w h)) hown hG.1 hP hm10 hf11 rfl 3 (by decide) (hts _ (mT wg_1339)) (fun _ h => h) rfl dX11_takes_16 ?_
  refine lv_iload_n hx hb dX11_takes_19 rfl (lv_at hl 0 rfl) ?_
  refine lv_iadd hx hb dX11_takes_20 ?_
  refine lv_topi (fun x18 ex18 => ?_)
  obtain rfl : x18 = 0 := ex18.trans (by decide)
  refine lv_aload_n hx hb dX11_takes_21 rfl (lv_at hl 2 rfl) ?_
  refine pl_get (v := .int 0) hx hb hts (fun w h => mT (inX11 w h)) hown hG.1 hP hm10 hf11 rfl 2 (by decide) (hts _ (mT wg_1338)) (fun _ h => h) rfl dX11_takes_22 ?_
  refine lv_icmp_ge (tgt := 47) hx hb dX11_takes_25 (by decide) (fun c19 => ?_) (fun c19 => absurd (by decide) c19)
  refine lv_iconst (v := 0) hx hb dX11_takes_47 (by decide) ?_
  exact ret_i (ty := .boolean) hx hb hr hlocks (rfl) hP hD hS (Nat.le_of_ble_eq_true rfl) (Nat.le_of_ble_eq_true rfl) (⟨rfl, hfr8, hsb9⟩) dX11_takes_48

set_option maxHeartbeats 4000000 in
set_option maxRecDepth 100000 in
theorem k_X11_fails (l : Launch) (g : GG) (L : List Nat) (f : HP) (sz : Nat) (mo ar1 ar7 ar10 ar11 ar24 ar26 ar27 ar28 ar29 ar30 ar31 ar32 ar33 ar34 ar35 ar41 ar42 ar43 ar44 ar49 ar52 ar54 : Nat) (pl : Int32) (z8 : Int32) (z13 : Int32) (hm_mo : mo ∈ L) (hf_mo : f mo = .inr (10, [.int 0, .ref ar1, .int 0, .int 0, .int (-1), .int 0, .int 0, .ref ar7, .int z8, .int 0, .ref ar10, .ref ar11, .int 0, .int z13, .int 0, .int 0, .int 0, .int 0, .int 0, .int 0, .int 0, .long 0, .long 0, .int 0, .ref ar24, .int 0, .ref ar26, .ref ar27, .ref ar28, .ref ar29, .ref ar30, .ref ar31, .ref ar32, .ref ar33, .ref ar34, .ref ar35, .int 0, .int 0, .int 0, .int 0, .int 0, .ref ar41, .ref ar42, .ref ar43, .ref ar44, .long 0, .long 0, .int 0, .int 0, .ref ar49, .int 0, .int 0, .ref ar52, .int 0, .ref ar54, .int 0])) : MtV l g yX11_fails cX11_fails 2 ({ frames := 0, cells := 0, slots := 0, locals := 0 }) [.ref mo, .int pl] L f sz (fun u => u.2 mo = .inr (10, [.int 0, .ref ar1, .int 0, .int 0, .int pl, .int 0, .int 0, .ref ar7, .int z8, .int 0, .ref ar10, .ref ar11, .int 0, .int z13, .int 0, .int 0, .int 0, .int 0, .int 0, .int 0, .int 0, .long 0, .long 0, .int 0, .ref ar24, .int 0, .ref ar26, .ref ar27, .ref ar28, .ref ar29, .ref ar30, .ref ar31, .ref ar32, .ref ar33, .ref ar34, .ref ar35, .int 0, .int 0, .int 0, .int 0, .int 0, .ref ar41, .ref ar42, .ref ar43, .ref ar44, .long 0, .long 0, .int 0, .int 0, .ref ar49, .int 0, .int 0, .ref ar52, .int 0, .ref ar54, .int 0]) ∧ (∀ b, b ∈ L → b ≠ mo → u.2 b = f b) ∧ (∀ b, b ∈ L → b ∈ u.1)) := by
  refine MtV.of (by decide +kernel) (Nat.le_of_ble_eq_true rfl) ?_
  intro p e s m below meth c A hEn hP hD hS ls hl
  obtain ⟨hx, hb, hr, hml, hown, hlocks, hts, hG, hA, hE, hnm⟩ := hEn
  have hown : s.vm.findClass "RulerWordModel" = some m.cls := hown
  have hl : lv_has ls 2 [(0, .ref mo), (1, .int pl)] := hl
  have hfr0 : ∀ b, b ∈ L → b ≠ mo → f b = f b := fun b hb z0 => rfl
  have hsb0 : ∀ b, b ∈ L → b ∈ L := fun b hb => hb
  refine lv_aload_n hx hb dX11_fails_0 rfl (lv_at hl 0 rfl) ?_
  refine pl_get (v := .int (-1)) hx hb hts (fun w h => mT (inX11 w h)) hown hG.1 hP hm_mo hf_mo rfl 4 (by decide) (hts _ (mT wg_1340)) (fun _ h => h) rfl dX11_fails_1 ?_
  refine lv_iconst (v := (-1)) hx hb dX11_fails_4 (by decide) ?_
  refine lv_icmp_ne (tgt := 13) hx hb dX11_fails_5 (by decide) (fun c1 => absurd rfl c1) (fun c1 => ?_)
  refine lv_aload_n hx hb dX11_fails_8 rfl (lv_at hl 0 rfl) ?_
  refine lv_iload_n hx hb dX11_fails_9 rfl (lv_at hl 1 rfl) ?_
  refine pl_put (ty := .int) (v := .int pl) (fs' := [.int 0, .ref ar1, .int 0, .int 0, .int pl, .int 0, .int 0, .ref ar7, .int z8, .int 0, .ref ar10, .ref ar11, .int 0, .int z13, .int 0, .int 0, .int 0, .int 0, .int 0, .int 0, .int 0, .long 0, .long 0, .int 0, .ref ar24, .int 0, .ref ar26, .ref ar27, .ref ar28, .ref ar29, .ref ar30, .ref ar31, .ref ar32, .ref ar33, .ref ar34, .ref ar35, .int 0, .int 0, .int 0, .int 0, .int 0, .ref ar41, .ref ar42, .ref ar43, .ref ar44, .long 0, .long 0, .int 0, .int 0, .ref ar49, .int 0, .int 0, .ref ar52, .int 0, .ref ar54, .int 0]) hx hb hts (fun w h => mT (inX11 w h)) tyX11 tyX11_ok nmX11 hown hG.1 hP hD hS hm_mo hf_mo rfl 4 (by decide) (hts _ (mT wg_1340)) (fun _ h => h) rfl (by decide +kernel) (rfl) (rfl) (Nat.le_of_ble_eq_true rfl) rfl dX11_fails_10 (fun H locs f2 hf4 ho3 hP hD hS => ?_)
  have hfr5 : ∀ b, b ∈ L → b ≠ mo → f2 b = f b := fun b hb z0 => (ho3 b z0).trans (hfr0 b hb z0)
  exact ret_v hx hb hr hlocks hP hD hS (Nat.le_of_ble_eq_true rfl) (Nat.le_of_ble_eq_true rfl) (⟨hf4, hfr5, hsb0⟩) dX11_fails_13

set_option maxHeartbeats 4000000 in
set_option maxRecDepth 100000 in
theorem k_X11_has_0 (l : Launch) (g : GG) (L : List Nat) (f : HP) (sz : Nat)   : MtI l g yX11_has cX11_has 2 (some .boolean) ({ frames := 0, cells := 0, slots := 0, locals := 0 }) [.int 0, .int 0] L f sz (fun r u => r = 0 ∧ (∀ b, b ∈ L → u.2 b = f b) ∧ (∀ b, b ∈ L → b ∈ u.1)) := by
  refine MtI.of (by decide +kernel) (Nat.le_of_ble_eq_true rfl) ?_
  intro p e s m below meth c A hEn hP hD hS ls hl
  obtain ⟨hx, hb, hr, hml, hown, hlocks, hts, hG, hA, hE, hnm⟩ := hEn
  have hown : s.vm.findClass "RulerWordModel" = some m.cls := hown
  have hl : lv_has ls 2 [(0, .int 0), (1, .int 0)] := hl
  have hfr0 : ∀ b, b ∈ L → f b = f b := fun b hb  => rfl
  have hsb0 : ∀ b, b ∈ L → b ∈ L := fun b hb => hb
  refine lv_iload_n hx hb dX11_has_0 rfl (lv_at hl 0 rfl) ?_
  refine lv_iload_n hx hb dX11_has_1 rfl (lv_at hl 1 rfl) ?_
  refine lv_ishr hx hb dX11_has_2 ?_
  refine lv_topi (fun x1 ex1 => ?_)
  obtain rfl : x1 = 0 := ex1.trans (by decide)
  refine lv_iconst (v := 1) hx hb dX11_has_3 (by decide) ?_
  refine lv_iand hx hb dX11_has_4 ?_
  refine lv_topi (fun x2 ex2 => ?_)
  obtain rfl : x2 = 0 := ex2.trans (by decide)
  refine lv_iconst (v := 1) hx hb dX11_has_5 (by decide) ?_
  refine lv_icmp_ne (tgt := 13) hx hb dX11_has_6 (by decide) (fun c3 => ?_) (fun c3 => absurd c3 (by decide))
  refine lv_iconst (v := 0) hx hb dX11_has_13 (by decide) ?_
  exact ret_i (ty := .boolean) hx hb hr hlocks (rfl) hP hD hS (Nat.le_of_ble_eq_true rfl) (Nat.le_of_ble_eq_true rfl) (⟨rfl, hfr0, hsb0⟩) dX11_has_14

set_option maxHeartbeats 4000000 in
set_option maxRecDepth 100000 in
theorem k_X11_has_1 (l : Launch) (g : GG) (L : List Nat) (f : HP) (sz : Nat)   : MtI l g yX11_has cX11_has 2 (some .boolean) ({ frames := 0, cells := 0, slots := 0, locals := 0 }) [.int 0, .int 1] L f sz (fun r u => r = 0 ∧ (∀ b, b ∈ L → u.2 b = f b) ∧ (∀ b, b ∈ L → b ∈ u.1)) := by
  refine MtI.of (by decide +kernel) (Nat.le_of_ble_eq_true rfl) ?_
  intro p e s m below meth c A hEn hP hD hS ls hl
  obtain ⟨hx, hb, hr, hml, hown, hlocks, hts, hG, hA, hE, hnm⟩ := hEn
  have hown : s.vm.findClass "RulerWordModel" = some m.cls := hown
  have hl : lv_has ls 2 [(0, .int 0), (1, .int 1)] := hl
  have hfr0 : ∀ b, b ∈ L → f b = f b := fun b hb  => rfl
  have hsb0 : ∀ b, b ∈ L → b ∈ L := fun b hb => hb
  refine lv_iload_n hx hb dX11_has_0 rfl (lv_at hl 0 rfl) ?_
  refine lv_iload_n hx hb dX11_has_1 rfl (lv_at hl 1 rfl) ?_
  refine lv_ishr hx hb dX11_has_2 ?_
  refine lv_topi (fun x1 ex1 => ?_)
  obtain rfl : x1 = 0 := ex1.trans (by decide)
  refine lv_iconst (v := 1) hx hb dX11_has_3 (by decide) ?_
  refine lv_iand hx hb dX11_has_4 ?_
  refine lv_topi (fun x2 ex2 => ?_)
  obtain rfl : x2 = 0 := ex2.trans (by decide)
  refine lv_iconst (v := 1) hx hb dX11_has_5 (by decide) ?_
  refine lv_icmp_ne (tgt := 13) hx hb dX11_has_6 (by decide) (fun c3 => ?_) (fun c3 => absurd c3 (by decide))
  refine lv_iconst (v := 0) hx hb dX11_has_13 (by decide) ?_
  exact ret_i (ty := .boolean) hx hb hr hlocks (rfl) hP hD hS (Nat.le_of_ble_eq_true rfl) (Nat.le_of_ble_eq_true rfl) (⟨rfl, hfr0, hsb0⟩) dX11_has_14

set_option maxHeartbeats 4000000 in
set_option maxRecDepth 100000 in
theorem k_X11_has_2 (l : Launch) (g : GG) (L : List Nat) (f : HP) (sz : Nat)   : MtI l g yX11_has cX11_has 2 (some .boolean) ({ frames := 0, cells := 0, slots := 0, locals := 0 }) [.int 0, .int 2] L f sz (fun r u => r = 0 ∧ (∀ b, b ∈ L → u.2 b = f b) ∧ (∀ b, b ∈ L → b ∈ u.1)) := by
  refine MtI.of (by decide +kernel) (Nat.le_of_ble_eq_true rfl) ?_
  intro p e s m below meth c A hEn hP hD hS ls hl
  obtain ⟨hx, hb, hr, hml, hown, hlocks, hts, hG, hA, hE, hnm⟩ := hEn
  have hown : s.vm.findClass "RulerWordModel" = some m.cls := hown
  have hl : lv_has ls 2 [(0, .int 0), (1, .int 2)] := hl
  have hfr0 : ∀ b, b ∈ L → f b = f b := fun b hb  => rfl
  have hsb0 : ∀ b, b ∈ L → b ∈ L := fun b hb => hb
  refine lv_iload_n hx hb dX11_has_0 rfl (lv_at hl 0 rfl) ?_
  refine lv_iload_n hx hb dX11_has_1 rfl (lv_at hl 1 rfl) ?_
  refine lv_ishr hx hb dX11_has_2 ?_
  refine lv_topi (fun x1 ex1 => ?_)
  obtain rfl : x1 = 0 := ex1.trans (by decide)
  refine lv_iconst (v := 1) hx hb dX11_has_3 (by decide) ?_
  refine lv_iand hx hb dX11_has_4 ?_
  refine lv_topi (fun x2 ex2 => ?_)
  obtain rfl : x2 = 0 := ex2.trans (by decide)
  refine lv_iconst (v := 1) hx hb dX11_has_5 (by decide) ?_
  refine lv_icmp_ne (tgt := 13) hx hb dX11_has_6 (by decide) (fun c3 => ?_) (fun c3 => absurd c3 (by decide))
  refine lv_iconst (v := 0) hx hb dX11_has_13 (by decide) ?_
  exact ret_i (ty := .boolean) hx hb hr hlocks (rfl) hP hD hS (Nat.le_of_ble_eq_true rfl) (Nat.le_of_ble_eq_true rfl) (⟨rfl, hfr0, hsb0⟩) dX11_has_14

set_option maxHeartbeats 4000000 in
set_option maxRecDepth 100000 in
theorem k_X11_isDigit (l : Launch) (g : GG) (L : List Nat) (f : HP) (sz : Nat)   : MtI l g yX11_isDigit cX11_isDigit 1 (some .boolean) ({ frames := 0, cells := 0, slots := 0, locals := 0 }) [.int (-1)] L f sz (fun r u => r = 0 ∧ (∀ b, b ∈ L → u.2 b = f b) ∧ (∀ b, b ∈ L → b ∈ u.1)) := by
  refine MtI.of (by decide +kernel) (Nat.le_of_ble_eq_true rfl) ?_
  intro p e s m below meth c A hEn hP hD hS ls hl
  obtain ⟨hx, hb, hr, hml, hown, hlocks, hts, hG, hA, hE, hnm⟩ := hEn
  have hown : s.vm.findClass "RulerWordModel" = some m.cls := hown
  have hl : lv_has ls 1 [(0, .int (-1))] := hl
  have hfr0 : ∀ b, b ∈ L → f b = f b := fun b hb  => rfl
  have hsb0 : ∀ b, b ∈ L → b ∈ L := fun b hb => hb
  refine lv_iload_n hx hb dX11_isDigit_0 rfl (lv_at hl 0 rfl) ?_
  refine lv_bipush (v := 48) hx hb dX11_isDigit_1 (by decide) ?_
  refine lv_icmp_lt (tgt := 16) hx hb dX11_isDigit_3 (by decide) (fun c1 => ?_) (fun c1 => absurd (by decide) c1)
  refine lv_iconst (v := 0) hx hb dX11_isDigit_16 (by decide) ?_
  exact ret_i (ty := .boolean) hx hb hr hlocks (rfl) hP hD hS (Nat.le_of_ble_eq_true rfl) (Nat.le_of_ble_eq_true rfl) (⟨rfl, hfr0, hsb0⟩) dX11_isDigit_17

set_option maxHeartbeats 4000000 in
set_option maxRecDepth 100000 in
theorem k_X11_readsCouncil (l : Launch) (g : GG) (L : List Nat) (f : HP) (sz : Nat) (mo ar1 ar7 ar10 ar11 ar24 ar26 ar27 ar28 ar29 ar30 ar31 ar32 ar33 ar34 ar35 ar41 ar42 ar43 ar44 ar49 ar52 ar54 : Nat) (hm_mo : mo ∈ L) (hf_mo : f mo = .inr (10, [.int 0, .ref ar1, .int 0, .int 0, .int 0, .int 0, .int 0, .ref ar7, .int 0, .int 0, .ref ar10, .ref ar11, .int 0, .int 0, .int 0, .int 0, .int 0, .int 0, .int 0, .int 0, .int 0, .long 0, .long 0, .int 0, .ref ar24, .int 0, .ref ar26, .ref ar27, .ref ar28, .ref ar29, .ref ar30, .ref ar31, .ref ar32, .ref ar33, .ref ar34, .ref ar35, .int 0, .int 0, .int 0, .int 0, .int 0, .ref ar41, .ref ar42, .ref ar43, .ref ar44, .long 0, .long 0, .int 0, .int 0, .ref ar49, .int 0, .int 0, .ref ar52, .int 0, .ref ar54, .int 0])) (hm_ar7 : ar7 ∈ L) (hf_ar7 : f ar7 = .inl (g.2.1 0, 6, .inl (fun _ => 0))) : MtI l g yX11_readsCouncil cX11_readsCouncil 2 (some .int) ({ frames := 3, cells := 0, slots := 0, locals := 63 }) [.ref mo] L f sz (fun r u => ∃ (r7 : Nat → Int32), u.2 mo = .inr (10, [.int 0, .ref ar1, .int 0, .int 0, .int 0, .int 0, .int 0, .ref ar7, .int (-1), .int 0, .ref ar10, .ref ar11, .int 0, .int 0, .int 0, .int 0, .int 0, .int 0, .int 0, .int 0, .int 0, .long 0, .long 0, .int 0, .ref ar24, .int 0, .ref ar26, .ref ar27, .ref ar28, .ref ar29, .ref ar30, .ref ar31, .ref ar32, .ref ar33, .ref ar34, .ref ar35, .int 0, .int 0, .int 0, .int 0, .int 0, .ref ar41, .ref ar42, .ref ar43, .ref ar44, .long 0, .long 0, .int 0, .int 0, .ref ar49, .int 0, .int 0, .ref ar52, .int 0, .ref ar54, .int 0]) ∧ u.2 ar7 = .inl (g.2.1 0, 6, .inl (r7)) ∧ r = 0 ∧ (∀ b, b ∈ L → b ≠ mo → b ≠ ar7 → u.2 b = f b) ∧ (∀ b, b ∈ L → b ∈ u.1)) := by
  refine MtI.of (by decide +kernel) (Nat.le_of_ble_eq_true rfl) ?_
  intro p e s m below meth c A hEn hP hD hS ls hl
  obtain ⟨hx, hb, hr, hml, hown, hlocks, hts, hG, hA, hE, hnm⟩ := hEn
  have hown : s.vm.findClass "RulerWordModel" = some m.cls := hown
  have hl : lv_has ls 2 [(0, .ref mo)] := hl
  have hfr0 : ∀ b, b ∈ L → b ≠ mo → b ≠ ar7 → f b = f b := fun b hb z0 z1 => rfl
  have hsb0 : ∀ b, b ∈ L → b ∈ L := fun b hb => hb
  refine lv_aload_n hx hb dX11_readsCouncil_0 rfl (lv_at hl 0 rfl) ?_
  refine lv_iconst (v := 0) hx hb dX11_readsCouncil_1 (by decide) ?_
  refine pl_put (ty := .int) (v := .int 0) (fs' := [.int 0, .ref ar1, .int 0, .int 0, .int 0, .int 0, .int 0, .ref ar7, .int 0, .int 0, .ref ar10, .ref ar11, .int 0, .int 0, .int 0, .int 0, .int 0, .int 0, .int 0, .int 0, .int 0, .long 0, .long 0, .int 0, .ref ar24, .int 0, .ref ar26, .ref ar27, .ref ar28, .ref ar29, .ref ar30, .ref ar31, .ref ar32, .ref ar33, .ref ar34, .ref ar35, .int 0, .int 0, .int 0, .int 0, .int 0, .ref ar41, .ref ar42, .ref ar43, .ref ar44, .long 0, .long 0, .int 0, .int 0, .ref ar49, .int 0, .int 0, .ref ar52, .int 0, .ref ar54, .int 0]) hx hb hts (fun w h => mT (inX11 w h)) tyX11 tyX11_ok nmX11 hown hG.1 hP hD hS hm_mo hf_mo rfl 3 (by decide) (hts _ (mT wg_1339)) (fun _ h => h) rfl (by decide +kernel) (rfl) (rfl) (Nat.le_of_ble_eq_true rfl) rfl dX11_readsCouncil_2 (fun H locs f1 hf3 ho2 hP hD hS => ?_)
  have hfr4 : ∀ b, b ∈ L → b ≠ mo → b ≠ ar7 → f1 b = f b := fun b hb z0 z1 => (ho2 b z0).trans (hfr0 b hb z0 z1)
  have hf5 := (ho2 ar7 (kno hf_mo hf_ar7).symm).trans hf_ar7
  refine lv_aload_n hx hb dX11_readsCouncil_5 rfl (lv_at hl 0 rfl) ?_
  refine lv_iconst (v := (-1)) hx hb dX11_readsCouncil_6 (by decide) ?_
  refine pl_put (ty := .int) (v := .int (-1)) (fs' := [.int 0, .ref ar1, .int 0, .int 0, .int (-1), .int 0, .int 0, .ref ar7, .int 0, .int 0, .ref ar10, .ref ar11, .int 0, .int 0, .int 0, .int 0, .int 0, .int 0, .int 0, .int 0, .int 0, .long 0, .long 0, .int 0, .ref ar24, .int 0, .ref ar26, .ref ar27, .ref ar28, .ref ar29, .ref ar30, .ref ar31, .ref ar32, .ref ar33, .ref ar34, .ref ar35, .int 0, .int 0, .int 0, .int 0, .int 0, .ref ar41, .ref ar42, .ref ar43, .ref ar44, .long 0, .long 0, .int 0, .int 0, .ref ar49, .int 0, .int 0, .ref ar52, .int 0, .ref ar54, .int 0]) hx hb hts (fun w h => mT (inX11 w h)) tyX11 tyX11_ok nmX11 hown hG.1 hP hD hS hm_mo hf3 rfl 4 (by decide) (hts _ (mT wg_1340)) (fun _ h => h) rfl (by decide +kernel) (rfl) (rfl) (Nat.le_of_ble_eq_true rfl) rfl dX11_readsCouncil_7 (fun H locs f6 hf8 ho7 hP hD hS => ?_)
  have hfr9 : ∀ b, b ∈ L → b ≠ mo → b ≠ ar7 → f6 b = f b := fun b hb z0 z1 => (ho7 b z0).trans (hfr4 b hb z0 z1)
  have hf10 := (ho7 ar7 (kno hf3 hf5).symm).trans hf5
  refine lv_aload_n hx hb dX11_readsCouncil_10 rfl (lv_at hl 0 rfl) ?_
  refine lv_iconst (v := 0) hx hb dX11_readsCouncil_11 (by decide) ?_
  refine pl_put (ty := .int) (v := .int 0) (fs' := [.int 0, .ref ar1, .int 0, .int 0, .int (-1), .int 0, .int 0, .ref ar7, .int 0, .int 0, .ref ar10, .ref ar11, .int 0, .int 0, .int 0, .int 0, .int 0, .int 0, .int 0, .int 0, .int 0, .long 0, .long 0, .int 0, .ref ar24, .int 0, .ref ar26, .ref ar27, .ref ar28, .ref ar29, .ref ar30, .ref ar31, .ref ar32, .ref ar33, .ref ar34, .ref ar35, .int 0, .int 0, .int 0, .int 0, .int 0, .ref ar41, .ref ar42, .ref ar43, .ref ar44, .long 0, .long 0, .int 0, .int 0, .ref ar49, .int 0, .int 0, .ref ar52, .int 0, .ref ar54, .int 0]) hx hb hts (fun w h => mT (inX11 w h)) tyX11 tyX11_ok nmX11 hown hG.1 hP hD hS hm_mo hf8 rfl 9 (by decide) (hts _ (mT wg_1345)) (fun _ h => h) rfl (by decide +kernel) (rfl) (rfl) (Nat.le_of_ble_eq_true rfl) rfl dX11_readsCouncil_12 (fun H locs f11 hf13 ho12 hP hD hS => ?_)
  have hfr14 : ∀ b, b ∈ L → b ≠ mo → b ≠ ar7 → f11 b = f b := fun b hb z0 z1 => (ho12 b z0).trans (hfr9 b hb z0 z1)
  have hf15 := (ho12 ar7 (kno hf8 hf10).symm).trans hf10
  refine lv_iconst (v := 0) hx hb dX11_readsCouncil_15 (by decide) ?_
  refine lv_istore_n (lv' := [(1, .int 0), (0, .ref mo)]) hx hb dX11_readsCouncil_16 rfl hl (by decide) rfl (fun ls hl => ?_)
  refine lv_iload_n hx hb dX11_readsCouncil_17 rfl (lv_at hl 0 rfl) ?_
  refine lv_bipush (v := 6) hx hb dX11_readsCouncil_18 (by decide) ?_
  refine lv_icmp_ge (tgt := 36) hx hb dX11_readsCouncil_20 (by decide) (fun c16 => absurd c16 (by decide)) (fun c16 => ?_)
  refine lv_aload_n hx hb dX11_readsCouncil_23 rfl (lv_at hl 1 rfl) ?_
  refine pl_get (v := .ref ar7) hx hb hts (fun w h => mT (inX11 w h)) hown hG.1 hP hm_mo hf13 rfl 7 (by decide) (hts _ (mT wg_1343)) (fun _ h => h) rfl dX11_readsCouncil_24 ?_
  refine lv_iload_n hx hb dX11_readsCouncil_27 rfl (lv_at hl 0 rfl) ?_
  refine lv_iconst (v := 0) hx hb dX11_readsCouncil_28 (by decide) ?_
  refine pl_iast hx hb hG.1 hP hD hS hm_ar7 0 hf15 rfl (by unfold vp_in; decide) dX11_readsCouncil_29 (fun H locs f17 hf19 ho18 hP hD hS => ?_)
  obtain ⟨r20, er20⟩ : ∃ r : Nat → Int32, r = upd (fun _ => 0) (0 : Int32).toNatClampNeg (0) := ⟨_, rfl⟩
  rw [← er20] at hf19
  have hfr21 : ∀ b, b ∈ L → b ≠ mo → b ≠ ar7 → f17 b = f b := fun b hb z0 z1 => (ho18 b z1).trans (hfr14 b hb z0 z1)
  have hf22 := (ho18 mo (kno hf13 hf15)).trans hf13
  refine lv_iinc (v := 1) (lv' := [(1, .int 1), (0, .ref mo)]) hx hb dX11_readsCouncil_30 hl (k := 0) rfl (by decide) (by decide) rfl (fun ls hl => ?_)
  refine lv_goto (tgt := 17) hx hb dX11_readsCouncil_33 (by decide) ?_
  refine lv_iload_n hx hb dX11_readsCouncil_17 rfl (lv_at hl 0 rfl) ?_
  refine lv_bipush (v := 6) hx hb dX11_readsCouncil_18 (by decide) ?_
  refine lv_icmp_ge (tgt := 36) hx hb dX11_readsCouncil_20 (by decide) (fun c23 => absurd c23 (by decide)) (fun c23 => ?_)
  refine lv_aload_n hx hb dX11_readsCouncil_23 rfl (lv_at hl 1 rfl) ?_
  refine pl_get (v := .ref ar7) hx hb hts (fun w h => mT (inX11 w h)) hown hG.1 hP hm_mo hf22 rfl 7 (by decide) (hts _ (mT wg_1343)) (fun _ h => h) rfl dX11_readsCouncil_24 ?_
  refine lv_iload_n hx hb dX11_readsCouncil_27 rfl (lv_at hl 0 rfl) ?_
  refine lv_iconst (v := 0) hx hb dX11_readsCouncil_28 (by decide) ?_
  refine pl_iast hx hb hG.1 hP hD hS hm_ar7 0 hf19 rfl (by unfold vp_in; decide) dX11_readsCouncil_29 (fun H locs f24 hf26 ho25 hP hD hS => ?_)
  obtain ⟨r27, er27⟩ : ∃ r : Nat → Int32, r = upd (r20) (1 : Int32).toNatClampNeg (0) := ⟨_, rfl⟩
  rw [← er27] at hf26
  have hfr28 : ∀ b, b ∈ L → b ≠ mo → b ≠ ar7 → f24 b = f b := fun b hb z0 z1 => (ho25 b z1).trans (hfr21 b hb z0 z1)
  have hf29 := (ho25 mo (kno hf22 hf19)).trans hf22
  refine lv_iinc (v := 2) (lv' := [(1, .int 2), (0, .ref mo)]) hx hb dX11_readsCouncil_30 hl (k := 0) rfl (by decide) (by decide) rfl (fun ls hl => ?_)
  refine lv_goto (tgt := 17) hx hb dX11_readsCouncil_33 (by decide) ?_
  refine lv_iload_n hx hb dX11_readsCouncil_17 rfl (lv_at hl 0 rfl) ?_
  refine lv_bipush (v := 6) hx hb dX11_readsCouncil_18 (by decide) ?_
  refine lv_icmp_ge (tgt := 36) hx hb dX11_readsCouncil_20 (by decide) (fun c30 => absurd c30 (by decide)) (fun c30 => ?_)
  refine lv_aload_n hx hb dX11_readsCouncil_23 rfl (lv_at hl 1 rfl) ?_
  refine pl_get (v := .ref ar7) hx hb hts (fun w h => mT (inX11 w h)) hown hG.1 hP hm_mo hf29 rfl 7 (by decide) (hts _ (mT wg_1343)) (fun _ h => h) rfl dX11_readsCouncil_24 ?_
  refine lv_iload_n hx hb dX11_readsCouncil_27 rfl (lv_at hl 0 rfl) ?_
  refine lv_iconst (v := 0) hx hb dX11_readsCouncil_28 (by decide) ?_
  refine pl_iast hx hb hG.1 hP hD hS hm_ar7 0 hf26 rfl (by unfold vp_in; decide) dX11_readsCouncil_29 (fun H locs f31 hf33 ho32 hP hD hS => ?_)
  obtain ⟨r34, er34⟩ : ∃ r : Nat → Int32, r = upd (r27) (2 : Int32).toNatClampNeg (0) := ⟨_, rfl⟩
  rw [← er34] at hf33
  have hfr35 : ∀ b, b ∈ L → b ≠ mo → b ≠ ar7 → f31 b = f b := fun b hb z0 z1 => (ho32 b z1).trans (hfr28 b hb z0 z1)
  have hf36 := (ho32 mo (kno hf29 hf26)).trans hf29
  refine lv_iinc (v := 3) (lv' := [(1, .int 3), (0, .ref mo)]) hx hb dX11_readsCouncil_30 hl (k := 0) rfl (by decide) (by decide) rfl (fun ls hl => ?_)
  refine lv_goto (tgt := 17) hx hb dX11_readsCouncil_33 (by decide) ?_
  refine lv_iload_n hx hb dX11_readsCouncil_17 rfl (lv_at hl 0 rfl) ?_
  refine lv_bipush (v := 6) hx hb dX11_readsCouncil_18 (by decide) ?_
  refine lv_icmp_ge (tgt := 36) hx hb dX11_readsCouncil_20 (by decide) (fun c37 => absurd c37 (by decide)) (fun c37 => ?_)
  refine lv_aload_n hx hb dX11_readsCouncil_23 rfl (lv_at hl 1 rfl) ?_
  refine pl_get (v := .ref ar7) hx hb hts (fun w h => mT (inX11 w h)) hown hG.1 hP hm_mo hf36 rfl 7 (by decide) (hts _ (mT wg_1343)) (fun _ h => h) rfl dX11_readsCouncil_24 ?_
  refine lv_iload_n hx hb dX11_readsCouncil_27 rfl (lv_at hl 0 rfl) ?_
  refine lv_iconst (v := 0) hx hb dX11_readsCouncil_28 (by decide) ?_
  refine pl_iast hx hb hG.1 hP hD hS hm_ar7 0 hf33 rfl (by unfold vp_in; decide) dX11_readsCouncil_29 (fun H locs f38 hf40 ho39 hP hD hS => ?_)
  obtain ⟨r41, er41⟩ : ∃ r : Nat → Int32, r = upd (r34) (3 : Int32).toNatClampNeg (0) := ⟨_, rfl⟩
  rw [← er41] at hf40
  have hfr42 : ∀ b, b ∈ L → b ≠ mo → b ≠ ar7 → f38 b = f b := fun b hb z0 z1 => (ho39 b z1).trans (hfr35 b hb z0 z1)
  have hf43 := (ho39 mo (kno hf36 hf33)).trans hf36
  refine lv_iinc (v := 4) (lv' := [(1, .int 4), (0, .ref mo)]) hx hb dX11_readsCouncil_30 hl (k := 0) rfl (by decide) (by decide) rfl (fun ls hl => ?_)
  refine lv_goto (tgt := 17) hx hb dX11_readsCouncil_33 (by decide) ?_
  refine lv_iload_n hx hb dX11_readsCouncil_17 rfl (lv_at hl 0 rfl) ?_
  refine lv_bipush (v := 6) hx hb dX11_readsCouncil_18 (by decide) ?_
  refine lv_icmp_ge (tgt := 36) hx hb dX11_readsCouncil_20 (by decide) (fun c44 => absurd c44 (by decide)) (fun c44 => ?_)
  refine lv_aload_n hx hb dX11_readsCouncil_23 rfl (lv_at hl 1 rfl) ?_
  refine pl_get (v := .ref ar7) hx hb hts (fun w h => mT (inX11 w h)) hown hG.1 hP hm_mo hf43 rfl 7 (by decide) (hts _ (mT wg_1343)) (fun _ h => h) rfl dX11_readsCouncil_24 ?_
  refine lv_iload_n hx hb dX11_readsCouncil_27 rfl (lv_at hl 0 rfl) ?_
  refine lv_iconst (v := 0) hx hb dX11_readsCouncil_28 (by decide) ?_
  refine pl_iast hx hb hG.1 hP hD hS hm_ar7 0 hf40 rfl (by unfold vp_in; decide) dX11_readsCouncil_29 (fun H locs f45 hf47 ho46 hP hD hS => ?_)
  obtain ⟨r48, er48⟩ : ∃ r : Nat → Int32, r = upd (r41) (4 : Int32).toNatClampNeg (0) := ⟨_, rfl⟩
  rw [← er48] at hf47
  have hfr49 : ∀ b, b ∈ L → b ≠ mo → b ≠ ar7 → f45 b = f b := fun b hb z0 z1 => (ho46 b z1).trans (hfr42 b hb z0 z1)
  have hf50 := (ho46 mo (kno hf43 hf40)).trans hf43
  refine lv_iinc (v := 5) (lv' := [(1, .int 5), (0, .ref mo)]) hx hb dX11_readsCouncil_30 hl (k := 0) rfl (by decide) (by decide) rfl (fun ls hl => ?_)
  refine lv_goto (tgt := 17) hx hb dX11_readsCouncil_33 (by decide) ?_
  refine lv_iload_n hx hb dX11_readsCouncil_17 rfl (lv_at hl 0 rfl) ?_
  refine lv_bipush (v := 6) hx hb dX11_readsCouncil_18 (by decide) ?_
  refine lv_icmp_ge (tgt := 36) hx hb dX11_readsCouncil_20 (by decide) (fun c51 => absurd c51 (by decide)) (fun c51 => ?_)
  refine lv_aload_n hx hb dX11_readsCouncil_23 rfl (lv_at hl 1 rfl) ?_
  refine pl_get (v := .ref ar7) hx hb hts (fun w h => mT (inX11 w h)) hown hG.1 hP hm_mo hf50 rfl 7 (by decide) (hts _ (mT wg_1343)) (fun _ h => h) rfl dX11_readsCouncil_24 ?_
  refine lv_iload_n hx hb dX11_readsCouncil_27 rfl (lv_at hl 0 rfl) ?_
  refine lv_iconst (v := 0) hx hb dX11_readsCouncil_28 (by decide) ?_
  refine pl_iast hx hb hG.1 hP hD hS hm_ar7 0 hf47 rfl (by unfold vp_in; decide) dX11_readsCouncil_29 (fun H locs f52 hf54 ho53 hP hD hS => ?_)
  obtain ⟨r55, er55⟩ : ∃ r : Nat → Int32, r = upd (r48) (5 : Int32).toNatClampNeg (0) := ⟨_, rfl⟩
  rw [← er55] at hf54
  have hfr56 : ∀ b, b ∈ L → b ≠ mo → b ≠ ar7 → f52 b = f b := fun b hb z0 z1 => (ho53 b z1).trans (hfr49 b hb z0 z1)
  have hf57 := (ho53 mo (kno hf50 hf47)).trans hf50
  refine lv_iinc (v := 6) (lv' := [(1, .int 6), (0, .ref mo)]) hx hb dX11_readsCouncil_30 hl (k := 0) rfl (by decide) (by decide) rfl (fun ls hl => ?_)
  refine lv_goto (tgt := 17) hx hb dX11_readsCouncil_33 (by decide) ?_
  refine lv_iload_n hx hb dX11_readsCouncil_17 rfl (lv_at hl 0 rfl) ?_
  refine lv_bipush (v := 6) hx hb dX11_readsCouncil_18 (by decide) ?_
  refine lv_icmp_ge (tgt := 36) hx hb dX11_readsCouncil_20 (by decide) (fun c58 => ?_) (fun c58 => absurd (by decide) c58)
  refine lv_aload_n hx hb dX11_readsCouncil_36 rfl (lv_at hl 1 rfl) ?_
  refine call_i (run_V (rm := { frames := 1, cells := 0, slots := 0, locals := 20 }) hx hb hml hown hts (k_X11_look l g _ _ _ mo ar1 ar7 ar10 ar11 ar24 ar26 ar27 ar28 ar29 ar30 ar31 ar32 ar33 ar34 ar35 ar41 ar42 ar43 ar44 ar49 ar52 ar54 (-1) 0 0 hm_mo hf57) cV_X11_look wg_1533 ⟨Nat.le_of_ble_eq_true rfl, Nat.le_of_ble_eq_true rfl⟩ hG hE hA hP hD hS hm_mo hf57 rfl rfl hl.1 (As := []) (rest := []) rfl (Nat.le_of_ble_eq_true rfl) dX11_readsCouncil_37 ⟨Nat.le_of_ble_eq_true rfl, Nat.le_of_ble_eq_true rfl⟩) hA hD hS (fun r59 L60 f61 H locs hp62 hP hD hS => ?_)
  obtain ⟨er63, fr64, sb65⟩ := hp62
  have hfr66 : ∀ b, b ∈ L → b ≠ mo → b ≠ ar7 → f61 b = f b := fun b hb z0 z1 => (fr64 b (hsb0 b hb) ).trans (hfr56 b hb z0 z1)
  have hsb67 : ∀ b, b ∈ L → b ∈ L60 := fun b hb => sb65 b (hsb0 b hb)
  have hf69 := (fr64 mo hm_mo ).trans hf57
  have hm68 := sb65 _ hm_mo
  have hf71 := (fr64 ar7 hm_ar7 ).trans hf54
  have hm70 := sb65 _ hm_ar7
  subst er63
  refine lv_istore_n (lv' := [(1, .int (-1)), (0, .ref mo)]) hx hb dX11_readsCouncil_40 rfl hl (by decide) rfl (fun ls hl => ?_)
  refine lv_aload_n hx hb dX11_readsCouncil_41 rfl (lv_at hl 1 rfl) ?_
  refine lv_aload_n hx hb dX11_readsCouncil_42 rfl (lv_at hl 1 rfl) ?_
  refine va_ldcS hx hb hown (hG.2.2.1 ("RulerWordModel", 174, "king", 0) (by decide +kernel)) dX11_readsCouncil_43 ?_
  refine call_i (run_V (rm := { frames := 2, cells := 0, slots := 0, locals := 40 }) hx hb hml hown hts (k_X11_takes l g _ _ _ mo ar1 ar7 ar10 ar11 ar24 ar26 ar27 ar28 ar29 ar30 ar31 ar32 ar33 ar34 ar35 ar41 ar42 ar43 ar44 ar49 ar52 ar54 0 (-1) 0 0 hm68 hf69 (by decide) (by decide)) cV_X11_takes wg_1542 ⟨Nat.le_of_ble_eq_true rfl, Nat.le_of_ble_eq_true rfl⟩ hG hE hA hP hD hS hm68 hf69 rfl rfl hl.1 (As := [.ref (g.2.2.1 0)]) (rest := [.ref mo]) rfl (Nat.le_of_ble_eq_true rfl) dX11_readsCouncil_45 ⟨Nat.le_of_ble_eq_true rfl, Nat.le_of_ble_eq_true rfl⟩) hA hD hS (fun r72 L73 f74 H locs hp75 hP hD hS => ?_)
  obtain ⟨er76, fr77, sb78⟩ := hp75
  have hfr79 : ∀ b, b ∈ L → b ≠ mo → b ≠ ar7 → f74 b = f b := fun b hb z0 z1 => (fr77 b (hsb67 b hb) ).trans (hfr66 b hb z0 z1)
  have hsb80 : ∀ b, b ∈ L → b ∈ L73 := fun b hb => sb78 b (hsb67 b hb)
  have hf82 := (fr77 mo hm68 ).trans hf69
  have hm81 := sb78 _ hm68
  have hf84 := (fr77 ar7 hm70 ).trans hf71
  have hm83 := sb78 _ hm70
  subst er76
  refine lv_if_eq (tgt := 55) hx hb dX11_readsCouncil_48 (by decide) (fun c85 => ?_) (fun c85 => absurd (by decide) c85)
  refine lv_aload_n hx hb dX11_readsCouncil_55 rfl (lv_at hl 1 rfl) ?_
  refine va_ldcS hx hb hown (hG.2.2.1 ("RulerWordModel", 176, "queen", 1) (by decide +kernel)) dX11_readsCouncil_56 ?_
  refine call_i (run_V (rm := { frames := 2, cells := 0, slots := 0, locals := 40 }) hx hb hml hown hts (k_X11_takes l g _ _ _ mo ar1 ar7 ar10 ar11 ar24 ar26 ar27 ar28 ar29 ar30 ar31 ar32 ar33 ar34 ar35 ar41 ar42 ar43 ar44 ar49 ar52 ar54 1 (-1) 0 0 hm81 hf82 (by decide) (by decide)) cV_X11_takes wg_1542 ⟨Nat.le_of_ble_eq_true rfl, Nat.le_of_ble_eq_true rfl⟩ hG hE hA hP hD hS hm81 hf82 rfl rfl hl.1 (As := [.ref (g.2.2.1 1)]) (rest := [.ref mo]) rfl (Nat.le_of_ble_eq_true rfl) dX11_readsCouncil_58 ⟨Nat.le_of_ble_eq_true rfl, Nat.le_of_ble_eq_true rfl⟩) hA hD hS (fun r86 L87 f88 H locs hp89 hP hD hS => ?_)
  obtain ⟨er90, fr91, sb92⟩ := hp89
  have hfr93 : ∀ b, b ∈ L → b ≠ mo → b ≠ ar7 → f88 b = f b := fun b hb z0 z1 => (fr91 b (hsb80 b hb) ).trans (hfr79 b hb z0 z1)
  have hsb94 : ∀ b, b ∈ L → b ∈ L87 := fun b hb => sb92 b (hsb80 b hb)
  have hf96 := (fr91 mo hm81 ).trans hf82
  have hm95 := sb92 _ hm81
  have hf98 := (fr91 ar7 hm83 ).trans hf84
  have hm97 := sb92 _ hm83
  subst er90
  refine lv_if_eq (tgt := 68) hx hb dX11_readsCouncil_61 (by decide) (fun c99 => ?_) (fun c99 => absurd (by decide) c99)
  refine lv_iconst (v := (-1)) hx hb dX11_readsCouncil_68 (by decide) ?_
  refine pl_put (ty := .int) (v := .int (-1)) (fs' := [.int 0, .ref ar1, .int 0, .int 0, .int (-1), .int 0, .int 0, .ref ar7, .int (-1), .int 0, .ref ar10, .ref ar11, .int 0, .int 0, .int 0, .int 0, .int 0, .int 0, .int 0, .int 0, .int 0, .long 0, .long 0, .int 0, .ref ar24, .int 0, .ref ar26, .ref ar27, .ref ar28, .ref ar29, .ref ar30, .ref ar31, .ref ar32, .ref ar33, .ref ar34, .ref ar35, .int 0, .int 0, .int 0, .int 0, .int 0, .ref ar41, .ref ar42, .ref ar43, .ref ar44, .long 0, .long 0, .int 0, .int 0, .ref ar49, .int 0, .int 0, .ref ar52, .int 0, .ref ar54, .int 0]) hx hb hts (fun w h => mT (inX11 w h)) tyX11 tyX11_ok nmX11 hown hG.1 hP hD hS hm95 hf96 rfl 8 (by decide) (hts _ (mT wg_1344)) (fun _ h => h) rfl (by decide +kernel) (rfl) (rfl) (Nat.le_of_ble_eq_true rfl) rfl dX11_readsCouncil_69 (fun H locs f100 hf102 ho101 hP hD hS => ?_)
  have hfr103 : ∀ b, b ∈ L → b ≠ mo → b ≠ ar7 → f100 b = f b := fun b hb z0 z1 => (ho101 b z0).trans (hfr93 b hb z0 z1)
  have hf104 := (ho101 ar7 (kno hf96 hf98).symm).trans hf98
  refine lv_aload_n hx hb dX11_readsCouncil_72 rfl (lv_at hl 1 rfl) ?_
  refine pl_get (v := .int (-1)) hx hb hts (fun w h => mT (inX11 w h)) hown hG.1 hP hm95 hf102 rfl 8 (by decide) (hts _ (mT wg_1344)) (fun _ h => h) rfl dX11_readsCouncil_73 ?_
  refine lv_iconst (v := (-1)) hx hb dX11_readsCouncil_76 (by decide) ?_
  refine lv_icmp_ne (tgt := 88) hx hb dX11_readsCouncil_77 (by decide) (fun c105 => absurd rfl c105) (fun c105 => ?_)
  refine lv_aload_n hx hb dX11_readsCouncil_80 rfl (lv_at hl 1 rfl) ?_
  refine lv_aload_n hx hb dX11_readsCouncil_81 rfl (lv_at hl 1 rfl) ?_
  refine pl_get (v := .int 0) hx hb hts (fun w h => mT (inX11 w h)) hown hG.1 hP hm95 hf102 rfl 3 (by decide) (hts _ (mT wg_1339)) (fun _ h => h) rfl dX11_readsCouncil_82 ?_
  refine call_v (run_V (rm := { frames := 0, cells := 0, slots := 0, locals := 0 }) hx hb hml hown hts (k_X11_fails l g _ _ _ mo ar1 ar7 ar10 ar11 ar24 ar26 ar27 ar28 ar29 ar30 ar31 ar32 ar33 ar34 ar35 ar41 ar42 ar43 ar44 ar49 ar52 ar54 0 (-1) 0 hm95 hf102) cV_X11_fails wg_1549 ⟨Nat.le_of_ble_eq_true rfl, Nat.le_of_ble_eq_true rfl⟩ hG hE hA hP hD hS hm95 hf102 rfl rfl hl.1 (As := [.int 0]) (rest := []) rfl (Nat.le_of_ble_eq_true rfl) dX11_readsCouncil_85 ⟨Nat.le_of_ble_eq_true rfl, Nat.le_of_ble_eq_true rfl⟩) hA hD hS (fun L107 f108 H locs hp109 hP hD hS => ?_)
  obtain ⟨hf110, fr111, sb112⟩ := hp109
  have hfr113 : ∀ b, b ∈ L → b ≠ mo → b ≠ ar7 → f108 b = f b := fun b hb z0 z1 => (fr111 b (hsb94 b hb) z0).trans (hfr103 b hb z0 z1)
  have hsb114 : ∀ b, b ∈ L → b ∈ L107 := fun b hb => sb112 b (hsb94 b hb)
  have hm115 := sb112 _ hm95
  have hf117 := (fr111 ar7 hm97 (kno hf102 hf104).symm).trans hf104
  have hm116 := sb112 _ hm97
  refine lv_aload_n hx hb dX11_readsCouncil_88 rfl (lv_at hl 1 rfl) ?_
  refine pl_get (v := .int 0) hx hb hts (fun w h => mT (inX11 w h)) hown hG.1 hP hm115 hf110 rfl 4 (by decide) (hts _ (mT wg_1340)) (fun _ h => h) rfl dX11_readsCouncil_89 ?_
  refine lv_iconst (v := (-1)) hx hb dX11_readsCouncil_92 (by decide) ?_
  refine lv_icmp_ne (tgt := 122) hx hb dX11_readsCouncil_93 (by decide) (fun c118 => ?_) (fun c118 => absurd c118 (by decide))
  refine lv_aload_n hx hb dX11_readsCouncil_122 rfl (lv_at hl 1 rfl) ?_
  refine pl_get (v := .int 0) hx hb hts (fun w h => mT (inX11 w h)) hown hG.1 hP hm115 hf110 rfl 4 (by decide) (hts _ (mT wg_1340)) (fun _ h => h) rfl dX11_readsCouncil_123 ?_
  refine lv_iconst (v := (-1)) hx hb dX11_readsCouncil_126 (by decide) ?_
  refine lv_icmp_ne (tgt := 157) hx hb dX11_readsCouncil_127 (by decide) (fun c119 => ?_) (fun c119 => absurd c119 (by decide))
  refine lv_aload_n hx hb dX11_readsCouncil_157 rfl (lv_at hl 1 rfl) ?_
  refine pl_get (v := .int 0) hx hb hts (fun w h => mT (inX11 w h)) hown hG.1 hP hm115 hf110 rfl 9 (by decide) (hts _ (mT wg_1345)) (fun _ h => h) rfl dX11_readsCouncil_158 ?_
  refine lv_iconst (v := 1) hx hb dX11_readsCouncil_161 (by decide) ?_
  refine call_i (run_S (rm := { frames := 0, cells := 0, slots := 0, locals := 0 }) hx hb hml hown hts (k_X11_has_1 l g _ _ _ ) cS_X11_has wg_1567 ⟨Nat.le_of_ble_eq_true rfl, Nat.le_of_ble_eq_true rfl⟩ hG hE hA hP hD hS rfl hl.1 (As := [.int 0, .int 1]) (rest := []) rfl (Nat.le_of_ble_eq_true rfl) dX11_readsCouncil_162 ⟨Nat.le_of_ble_eq_true rfl, Nat.le_of_ble_eq_true rfl⟩) hA hD hS (fun r120 L121 f122 H locs hp123 hP hD hS => ?_)
  obtain ⟨er124, fr125, sb126⟩ := hp123
  have hfr127 : ∀ b, b ∈ L → b ≠ mo → b ≠ ar7 → f122 b = f b := fun b hb z0 z1 => (fr125 b (hsb114 b hb) ).trans (hfr113 b hb z0 z1)
  have hsb128 : ∀ b, b ∈ L → b ∈ L121 := fun b hb => sb126 b (hsb114 b hb)
  have hf130 := (fr125 mo hm115 ).trans hf110
  have hm129 := sb126 _ hm115
  have hf132 := (fr125 ar7 hm116 ).trans hf117
  have hm131 := sb126 _ hm116
  subst er124
  refine lv_if_ne (tgt := 195) hx hb dX11_readsCouncil_165 (by decide) (fun c133 => absurd rfl c133) (fun c133 => ?_)
  refine lv_aload_n hx hb dX11_readsCouncil_168 rfl (lv_at hl 1 rfl) ?_
  refine pl_get (v := .ref ar7) hx hb hts (fun w h => mT (inX11 w h)) hown hG.1 hP hm129 hf130 rfl 7 (by decide) (hts _ (mT wg_1343)) (fun _ h => h) rfl dX11_readsCouncil_169 ?_
  refine lv_iconst (v := 1) hx hb dX11_readsCouncil_172 (by decide) ?_
  refine lv_aload_n hx hb dX11_readsCouncil_173 rfl (lv_at hl 1 rfl) ?_
  refine pl_get (v := .ref ar7) hx hb hts (fun w h => mT (inX11 w h)) hown hG.1 hP hm129 hf130 rfl 7 (by decide) (hts _ (mT wg_1343)) (fun _ h => h) rfl dX11_readsCouncil_174 ?_
  refine lv_iconst (v := 0) hx hb dX11_readsCouncil_177 (by decide) ?_
  refine pl_iald hx hb hG.1 hP hm131 0 hf132 rfl (by unfold vp_in; decide) dX11_readsCouncil_178 ?_
  refine lv_topi (fun x134 ex134 => ?_)
  obtain rfl : x134 = 0 := ex134.trans (by rw [er55]; exact (by rw [er48]; exact (by rw [er41]; exact (by rw [er34]; exact (by rw [er27]; exact (by rw [er20]; rfl))))))
  refine lv_iconst (v := 1) hx hb dX11_readsCouncil_179 (by decide) ?_
  refine lv_isub hx hb dX11_readsCouncil_180 ?_
  refine lv_topi (fun x135 ex135 => ?_)
  obtain rfl : x135 = (-1) := ex135.trans (by decide)
  refine lv_aload_n hx hb dX11_readsCouncil_181 rfl (lv_at hl 1 rfl) ?_
  refine pl_get (v := .int (-1)) hx hb hts (fun w h => mT (inX11 w h)) hown hG.1 hP hm129 hf130 rfl 8 (by decide) (hts _ (mT wg_1344)) (fun _ h => h) rfl dX11_readsCouncil_182 ?_
  refine lv_if_ne (tgt := 192) hx hb dX11_readsCouncil_185 (by decide) (fun c136 => ?_) (fun c136 => absurd c136 (by decide))
  refine lv_iconst (v := 4) hx hb dX11_readsCouncil_192 (by decide) ?_
  refine lv_idiv hx hb dX11_readsCouncil_193 (by decide) ?_
  refine lv_topi (fun x137 ex137 => ?_)
  obtain rfl : x137 = 0 := ex137.trans (by decide)
  refine pl_iast hx hb hG.1 hP hD hS hm131 0 hf132 rfl (by unfold vp_in; decide) dX11_readsCouncil_194 (fun H locs f138 hf140 ho139 hP hD hS => ?_)
  obtain ⟨r141, er141⟩ : ∃ r : Nat → Int32, r = upd (r55) (1 : Int32).toNatClampNeg (0) := ⟨_, rfl⟩
  rw [← er141] at hf140
  have hfr142 : ∀ b, b ∈ L → b ≠ mo → b ≠ ar7 → f138 b = f b := fun b hb z0 z1 => (ho139 b z1).trans (hfr127 b hb z0 z1)
  have hf143 := (ho139 mo (kno hf130 hf132)).trans hf130
  refine lv_aload_n hx hb dX11_readsCouncil_195 rfl (lv_at hl 1 rfl) ?_
  refine pl_get (v := .int 0) hx hb hts (fun w h => mT (inX11 w h)) hown hG.1 hP hm129 hf143 rfl 9 (by decide) (hts _ (mT wg_1345)) (fun _ h => h) rfl dX11_readsCouncil_196 ?_
  refine lv_iconst (v := 2) hx hb dX11_readsCouncil_199 (by decide) ?_
  refine call_i (run_S (rm := { frames := 0, cells := 0, slots := 0, locals := 0 }) hx hb hml hown hts (k_X11_has_2 l g _ _ _ ) cS_X11_has wg_1567 ⟨Nat.le_of_ble_eq_true rfl, Nat.le_of_ble_eq_true rfl⟩ hG hE hA hP hD hS rfl hl.1 (As := [.int 0, .int 2]) (rest := []) rfl (Nat.le_of_ble_eq_true rfl) dX11_readsCouncil_200 ⟨Nat.le_of_ble_eq_true rfl, Nat.le_of_ble_eq_true rfl⟩) hA hD hS (fun r144 L145 f146 H locs hp147 hP hD hS => ?_)
  obtain ⟨er148, fr149, sb150⟩ := hp147
  have hfr151 : ∀ b, b ∈ L → b ≠ mo → b ≠ ar7 → f146 b = f b := fun b hb z0 z1 => (fr149 b (hsb128 b hb) ).trans (hfr142 b hb z0 z1)
  have hsb152 : ∀ b, b ∈ L → b ∈ L145 := fun b hb => sb150 b (hsb128 b hb)
  have hf154 := (fr149 mo hm129 ).trans hf143
  have hm153 := sb150 _ hm129
  have hf156 := (fr149 ar7 hm131 ).trans hf140
  have hm155 := sb150 _ hm131
  subst er148
  refine lv_if_ne (tgt := 220) hx hb dX11_readsCouncil_203 (by decide) (fun c157 => absurd rfl c157) (fun c157 => ?_)
  refine lv_aload_n hx hb dX11_readsCouncil_206 rfl (lv_at hl 1 rfl) ?_
  refine pl_get (v := .ref ar7) hx hb hts (fun w h => mT (inX11 w h)) hown hG.1 hP hm153 hf154 rfl 7 (by decide) (hts _ (mT wg_1343)) (fun _ h => h) rfl dX11_readsCouncil_207 ?_
  refine lv_iconst (v := 2) hx hb dX11_readsCouncil_210 (by decide) ?_
  refine lv_aload_n hx hb dX11_readsCouncil_211 rfl (lv_at hl 1 rfl) ?_
  refine pl_get (v := .ref ar7) hx hb hts (fun w h => mT (inX11 w h)) hown hG.1 hP hm153 hf154 rfl 7 (by decide) (hts _ (mT wg_1343)) (fun _ h => h) rfl dX11_readsCouncil_212 ?_
  refine lv_iconst (v := 1) hx hb dX11_readsCouncil_215 (by decide) ?_
  refine pl_iald hx hb hG.1 hP hm155 0 hf156 rfl (by unfold vp_in; decide) dX11_readsCouncil_216 ?_
  refine lv_topi (fun x158 ex158 => ?_)
  obtain rfl : x158 = 0 := ex158.trans (by rw [er141]; rfl)
  refine lv_iconst (v := 1) hx hb dX11_readsCouncil_217 (by decide) ?_
  refine lv_iadd hx hb dX11_readsCouncil_218 ?_
  refine lv_topi (fun x159 ex159 => ?_)
  obtain rfl : x159 = 1 := ex159.trans (by decide)
  refine pl_iast hx hb hG.1 hP hD hS hm155 0 hf156 rfl (by unfold vp_in; decide) dX11_readsCouncil_219 (fun H locs f160 hf162 ho161 hP hD hS => ?_)
  obtain ⟨r163, er163⟩ : ∃ r : Nat → Int32, r = upd (r141) (2 : Int32).toNatClampNeg (1) := ⟨_, rfl⟩
  rw [← er163] at hf162
  have hfr164 : ∀ b, b ∈ L → b ≠ mo → b ≠ ar7 → f160 b = f b := fun b hb z0 z1 => (ho161 b z1).trans (hfr151 b hb z0 z1)
  have hf165 := (ho161 mo (kno hf154 hf156)).trans hf154
  refine lv_aload_n hx hb dX11_readsCouncil_220 rfl (lv_at hl 1 rfl) ?_
  refine pl_get (v := .int 0) hx hb hts (fun w h => mT (inX11 w h)) hown hG.1 hP hm153 hf165 rfl 4 (by decide) (hts _ (mT wg_1340)) (fun _ h => h) rfl dX11_readsCouncil_221 ?_
  exact ret_i (ty := .int) hx hb hr hlocks (rfl) hP hD hS (Nat.le_of_ble_eq_true rfl) (Nat.le_of_ble_eq_true rfl) (⟨r163, hf165, hf162, rfl, hfr164, hsb152⟩) dX11_readsCouncil_224

set_option maxHeartbeats 4000000 in
set_option maxRecDepth 100000 in
theorem k_X11_planLine (l : Launch) (g : GG) (L : List Nat) (f : HP) (sz : Nat) (mo ar1 ar7 ar10 ar11 ar24 ar26 ar27 ar28 ar29 ar30 ar31 ar32 ar33 ar34 ar35 ar41 ar42 ar43 ar44 ar49 ar52 ar54 : Nat) (hm_mo : mo ∈ L) (hf_mo : f mo = .inr (10, [.int 0, .ref ar1, .int 0, .int 0, .int (-1), .int 0, .int 0, .ref ar7, .int 0, .int 0, .ref ar10, .ref ar11, .int 0, .int 0, .int 0, .int 0, .int 0, .int 0, .int 0, .int 0, .int 0, .long 0, .long 0, .int 0, .ref ar24, .int 0, .ref ar26, .ref ar27, .ref ar28, .ref ar29, .ref ar30, .ref ar31, .ref ar32, .ref ar33, .ref ar34, .ref ar35, .int 0, .int 0, .int 0, .int 0, .int 0, .ref ar41, .ref ar42, .ref ar43, .ref ar44, .long 0, .long 0, .int 0, .int 0, .ref ar49, .int 0, .int 0, .ref ar52, .int 0, .ref ar54, .int 0])) (hm_ar11 : ar11 ∈ L) (hf_ar11 : f ar11 = .inl (g.2.1 0, 100, .inl (fun _ => 0))) : MtV l g yX11_planLine cX11_planLine 3 ({ frames := 3, cells := 0, slots := 0, locals := 63 }) [.ref mo] L f sz (fun u => ∃ (r11 : Nat → Int32), u.2 mo = .inr (10, [.int 0, .ref ar1, .int 0, .int 0, .int 0, .int 0, .int 0, .ref ar7, .int 0, .int 0, .ref ar10, .ref ar11, .int 0, .int 1, .int 0, .int 0, .int 0, .int 0, .int 0, .int 0, .int 0, .long 0, .long 0, .int 0, .ref ar24, .int 0, .ref ar26, .ref ar27, .ref ar28, .ref ar29, .ref ar30, .ref ar31, .ref ar32, .ref ar33, .ref ar34, .ref ar35, .int 0, .int 0, .int 0, .int 0, .int 0, .ref ar41, .ref ar42, .ref ar43, .ref ar44, .long 0, .long 0, .int 0, .int 0, .ref ar49, .int 0, .int 0, .ref ar52, .int 0, .ref ar54, .int 0]) ∧ u.2 ar11 = .inl (g.2.1 0, 100, .inl (r11)) ∧ (∀ b, b ∈ L → b ≠ mo → b ≠ ar11 → u.2 b = f b) ∧ (∀ b, b ∈ L → b ∈ u.1)) := by
  refine MtV.of (by decide +kernel) (Nat.le_of_ble_eq_true rfl) ?_
  intro p e s m below meth c A hEn hP hD hS ls hl
  obtain ⟨hx, hb, hr, hml, hown, hlocks, hts, hG, hA, hE, hnm⟩ := hEn
  have hown : s.vm.findClass "RulerWordModel" = some m.cls := hown
  have hl : lv_has ls 3 [(0, .ref mo)] := hl
  have hfr0 : ∀ b, b ∈ L → b ≠ mo → b ≠ ar11 → f b = f b := fun b hb z0 z1 => rfl
  have hsb0 : ∀ b, b ∈ L → b ∈ L := fun b hb => hb
  refine lv_aload_n hx hb dX11_planLine_0 rfl (lv_at hl 0 rfl) ?_
  refine call_i (run_V (rm := { frames := 1, cells := 0, slots := 0, locals := 20 }) hx hb hml hown hts (k_X11_look l g _ _ _ mo ar1 ar7 ar10 ar11 ar24 ar26 ar27 ar28 ar29 ar30 ar31 ar32 ar33 ar34 ar35 ar41 ar42 ar43 ar44 ar49 ar52 ar54 (-1) 0 0 hm_mo hf_mo) cV_X11_look wg_1533 ⟨Nat.le_of_ble_eq_true rfl, Nat.le_of_ble_eq_true rfl⟩ hG hE hA hP hD hS hm_mo hf_mo rfl rfl hl.1 (As := []) (rest := []) rfl (Nat.le_of_ble_eq_true rfl) dX11_planLine_1 ⟨Nat.le_of_ble_eq_true rfl, Nat.le_of_ble_eq_true rfl⟩) hA hD hS (fun r1 L2 f3 H locs hp4 hP hD hS => ?_)
  obtain ⟨er5, fr6, sb7⟩ := hp4
  have hfr8 : ∀ b, b ∈ L → b ≠ mo → b ≠ ar11 → f3 b = f b := fun b hb z0 z1 => (fr6 b (hsb0 b hb) ).trans (hfr0 b hb z0 z1)
  have hsb9 : ∀ b, b ∈ L → b ∈ L2 := fun b hb => sb7 b (hsb0 b hb)
  have hf11 := (fr6 mo hm_mo ).trans hf_mo
  have hm10 := sb7 _ hm_mo
  have hf13 := (fr6 ar11 hm_ar11 ).trans hf_ar11
  have hm12 := sb7 _ hm_ar11
  subst er5
  refine lv_istore_n (lv' := [(1, .int (-1)), (0, .ref mo)]) hx hb dX11_planLine_4 rfl hl (by decide) rfl (fun ls hl => ?_)
  refine lv_aload_n hx hb dX11_planLine_5 rfl (lv_at hl 1 rfl) ?_
  refine pl_get (v := .int 0) hx hb hts (fun w h => mT (inX11 w h)) hown hG.1 hP hm10 hf11 rfl 13 (by decide) (hts _ (mT wg_1349)) (fun _ h => h) rfl dX11_planLine_6 ?_
  refine lv_bipush (v := 20) hx hb dX11_planLine_9 (by decide) ?_
  refine lv_icmp_ne (tgt := 23) hx hb dX11_planLine_11 (by decide) (fun c14 => ?_) (fun c14 => absurd c14 (by decide))
  refine lv_iconst (v := 5) hx hb dX11_planLine_23 (by decide) ?_
  refine lv_aload_n hx hb dX11_planLine_24 rfl (lv_at hl 1 rfl) ?_
  refine pl_get (v := .int 0) hx hb hts (fun w h => mT (inX11 w h)) hown hG.1 hP hm10 hf11 rfl 13 (by decide) (hts _ (mT wg_1349)) (fun _ h => h) rfl dX11_planLine_25 ?_
  refine lv_imul hx hb dX11_planLine_28 ?_
  refine lv_topi (fun x15 ex15 => ?_)
  obtain rfl : x15 = 0 := ex15.trans (by decide)
  refine lv_istore_n (lv' := [(2, .int 0), (1, .int (-1)), (0, .ref mo)]) hx hb dX11_planLine_29 rfl hl (by decide) rfl (fun ls hl => ?_)
  refine lv_aload_n hx hb dX11_planLine_30 rfl (lv_at hl 2 rfl) ?_
  refine pl_get (v := .ref ar11) hx hb hts (fun w h => mT (inX11 w h)) hown hG.1 hP hm10 hf11 rfl 11 (by decide) (hts _ (mT wg_1347)) (fun _ h => h) rfl dX11_planLine_31 ?_
  refine lv_iload_n hx hb dX11_planLine_34 rfl (lv_at hl 0 rfl) ?_
  refine lv_aload_n hx hb dX11_planLine_35 rfl (lv_at hl 2 rfl) ?_
  refine va_ldcS hx hb hown (hG.2.2.1 ("RulerWordModel", 187, "phase", 8) (by decide +kernel)) dX11_planLine_36 ?_
  refine call_i (run_V (rm := { frames := 2, cells := 0, slots := 0, locals := 40 }) hx hb hml hown hts (k_X11_takes l g _ _ _ mo ar1 ar7 ar10 ar11 ar24 ar26 ar27 ar28 ar29 ar30 ar31 ar32 ar33 ar34 ar35 ar41 ar42 ar43 ar44 ar49 ar52 ar54 8 (-1) 0 0 hm10 hf11 (by decide) (by decide)) cV_X11_takes wg_1542 ⟨Nat.le_of_ble_eq_true rfl, Nat.le_of_ble_eq_true rfl⟩ hG hE hA hP hD hS hm10 hf11 rfl rfl hl.1 (As := [.ref (g.2.2.1 8)]) (rest := [.int 0, .ref ar11]) rfl (Nat.le_of_ble_eq_true rfl) dX11_planLine_38 ⟨Nat.le_of_ble_eq_true rfl, Nat.le_of_ble_eq_true rfl⟩) hA hD hS (fun r16 L17 f18 H locs hp19 hP hD hS => ?_)
  obtain ⟨er20, fr21, sb22⟩ := hp19
  have hfr23 : ∀ b, b ∈ L → b ≠ mo → b ≠ ar11 → f18 b = f b := fun b hb z0 z1 => (fr21 b (hsb9 b hb) ).trans (hfr8 b hb z0 z1)
  have hsb24 : ∀ b, b ∈ L → b ∈ L17 := fun b hb => sb22 b (hsb9 b hb)
  have hf26 := (fr21 mo hm10 ).trans hf11
  have hm25 := sb22 _ hm10
  have hf28 := (fr21 ar11 hm12 ).trans hf13
  have hm27 := sb22 _ hm12
  subst er20
  refine lv_if_eq (tgt := 53) hx hb dX11_planLine_41 (by decide) (fun c29 => ?_) (fun c29 => absurd (by decide) c29)
  refine lv_iconst (v := (-1)) hx hb dX11_planLine_53 (by decide) ?_
  refine pl_iast hx hb hG.1 hP hD hS hm27 0 hf28 rfl (by unfold vp_in; decide) dX11_planLine_54 (fun H locs f30 hf32 ho31 hP hD hS => ?_)
  obtain ⟨r33, er33⟩ : ∃ r : Nat → Int32, r = upd (fun _ => 0) (0 : Int32).toNatClampNeg ((-1)) := ⟨_, rfl⟩
  rw [← er33] at hf32
  have hfr34 : ∀ b, b ∈ L → b ≠ mo → b ≠ ar11 → f30 b = f b := fun b hb z0 z1 => (ho31 b z1).trans (hfr23 b hb z0 z1)
  have hf35 := (ho31 mo (kno hf26 hf28)).trans hf26
  refine lv_aload_n hx hb dX11_planLine_55 rfl (lv_at hl 2 rfl) ?_
  refine pl_get (v := .ref ar11) hx hb hts (fun w h => mT (inX11 w h)) hown hG.1 hP hm25 hf35 rfl 11 (by decide) (hts _ (mT wg_1347)) (fun _ h => h) rfl dX11_planLine_56 ?_
  refine lv_iload_n hx hb dX11_planLine_59 rfl (lv_at hl 0 rfl) ?_
  refine lv_iconst (v := 1) hx hb dX11_planLine_60 (by decide) ?_
  refine lv_iadd hx hb dX11_planLine_61 ?_
  refine lv_topi (fun x36 ex36 => ?_)
  obtain rfl : x36 = 1 := ex36.trans (by decide)
  refine lv_aload_n hx hb dX11_planLine_62 rfl (lv_at hl 2 rfl) ?_
  refine pl_get (v := .int (-1)) hx hb hts (fun w h => mT (inX11 w h)) hown hG.1 hP hm25 hf35 rfl 4 (by decide) (hts _ (mT wg_1340)) (fun _ h => h) rfl dX11_planLine_63 ?_
  refine lv_iconst (v := (-1)) hx hb dX11_planLine_66 (by decide) ?_
  refine lv_icmp_ne (tgt := 88) hx hb dX11_planLine_67 (by decide) (fun c37 => absurd rfl c37) (fun c37 => ?_)
  refine lv_aload_n hx hb dX11_planLine_70 rfl (lv_at hl 2 rfl) ?_
  refine va_ldcS hx hb hown (hG.2.2.1 ("RulerWordModel", 189, "round", 9) (by decide +kernel)) dX11_planLine_71 ?_
  refine call_i (run_V (rm := { frames := 2, cells := 0, slots := 0, locals := 40 }) hx hb hml hown hts (k_X11_takes l g _ _ _ mo ar1 ar7 ar10 ar11 ar24 ar26 ar27 ar28 ar29 ar30 ar31 ar32 ar33 ar34 ar35 ar41 ar42 ar43 ar44 ar49 ar52 ar54 9 (-1) 0 0 hm25 hf35 (by decide) (by decide)) cV_X11_takes wg_1542 ⟨Nat.le_of_ble_eq_true rfl, Nat.le_of_ble_eq_true rfl⟩ hG hE hA hP hD hS hm25 hf35 rfl rfl hl.1 (As := [.ref (g.2.2.1 9)]) (rest := [.int 1, .ref ar11]) rfl (Nat.le_of_ble_eq_true rfl) dX11_planLine_73 ⟨Nat.le_of_ble_eq_true rfl, Nat.le_of_ble_eq_true rfl⟩) hA hD hS (fun r38 L39 f40 H locs hp41 hP hD hS => ?_)
  obtain ⟨er42, fr43, sb44⟩ := hp41
  have hfr45 : ∀ b, b ∈ L → b ≠ mo → b ≠ ar11 → f40 b = f b := fun b hb z0 z1 => (fr43 b (hsb24 b hb) ).trans (hfr34 b hb z0 z1)
  have hsb46 : ∀ b, b ∈ L → b ∈ L39 := fun b hb => sb44 b (hsb24 b hb)
  have hf48 := (fr43 mo hm25 ).trans hf35
  have hm47 := sb44 _ hm25
  have hf50 := (fr43 ar11 hm27 ).trans hf32
  have hm49 := sb44 _ hm27
  subst er42
  refine lv_if_eq (tgt := 88) hx hb dX11_planLine_76 (by decide) (fun c51 => ?_) (fun c51 => absurd (by decide) c51)
  refine lv_iconst (v := (-1)) hx hb dX11_planLine_88 (by decide) ?_
  refine pl_iast hx hb hG.1 hP hD hS hm49 0 hf50 rfl (by unfold vp_in; decide) dX11_planLine_89 (fun H locs f52 hf54 ho53 hP hD hS => ?_)
  obtain ⟨r55, er55⟩ : ∃ r : Nat → Int32, r = upd (r33) (1 : Int32).toNatClampNeg ((-1)) := ⟨_, rfl⟩
  rw [← er55] at hf54
  have hfr56 : ∀ b, b ∈ L → b ≠ mo → b ≠ ar11 → f52 b = f b := fun b hb z0 z1 => (ho53 b z1).trans (hfr45 b hb z0 z1)
  have hf57 := (ho53 mo (kno hf48 hf50)).trans hf48
  refine lv_aload_n hx hb dX11_planLine_90 rfl (lv_at hl 2 rfl) ?_
  refine pl_get (v := .ref ar11) hx hb hts (fun w h => mT (inX11 w h)) hown hG.1 hP hm47 hf57 rfl 11 (by decide) (hts _ (mT wg_1347)) (fun _ h => h) rfl dX11_planLine_91 ?_
  refine lv_iload_n hx hb dX11_planLine_94 rfl (lv_at hl 0 rfl) ?_
  refine lv_iconst (v := 2) hx hb dX11_planLine_95 (by decide) ?_
  refine lv_iadd hx hb dX11_planLine_96 ?_
  refine lv_topi (fun x58 ex58 => ?_)
  obtain rfl : x58 = 2 := ex58.trans (by decide)
  refine lv_aload_n hx hb dX11_planLine_97 rfl (lv_at hl 2 rfl) ?_
  refine pl_get (v := .int (-1)) hx hb hts (fun w h => mT (inX11 w h)) hown hG.1 hP hm47 hf57 rfl 4 (by decide) (hts _ (mT wg_1340)) (fun _ h => h) rfl dX11_planLine_98 ?_
  refine lv_iconst (v := (-1)) hx hb dX11_planLine_101 (by decide) ?_
  refine lv_icmp_ne (tgt := 124) hx hb dX11_planLine_102 (by decide) (fun c59 => absurd rfl c59) (fun c59 => ?_)
  refine lv_aload_n hx hb dX11_planLine_105 rfl (lv_at hl 2 rfl) ?_
  refine va_ldcS hx hb hown (hG.2.2.1 ("RulerWordModel", 191, "from", 10) (by decide +kernel)) dX11_planLine_106 ?_
  refine call_i (run_V (rm := { frames := 2, cells := 0, slots := 0, locals := 40 }) hx hb hml hown hts (k_X11_takes l g _ _ _ mo ar1 ar7 ar10 ar11 ar24 ar26 ar27 ar28 ar29 ar30 ar31 ar32 ar33 ar34 ar35 ar41 ar42 ar43 ar44 ar49 ar52 ar54 10 (-1) 0 0 hm47 hf57 (by decide) (by decide)) cV_X11_takes wg_1542 ⟨Nat.le_of_ble_eq_true rfl, Nat.le_of_ble_eq_true rfl⟩ hG hE hA hP hD hS hm47 hf57 rfl rfl hl.1 (As := [.ref (g.2.2.1 10)]) (rest := [.int 2, .ref ar11]) rfl (Nat.le_of_ble_eq_true rfl) dX11_planLine_108 ⟨Nat.le_of_ble_eq_true rfl, Nat.le_of_ble_eq_true rfl⟩) hA hD hS (fun r60 L61 f62 H locs hp63 hP hD hS => ?_)
  obtain ⟨er64, fr65, sb66⟩ := hp63
  have hfr67 : ∀ b, b ∈ L → b ≠ mo → b ≠ ar11 → f62 b = f b := fun b hb z0 z1 => (fr65 b (hsb46 b hb) ).trans (hfr56 b hb z0 z1)
  have hsb68 : ∀ b, b ∈ L → b ∈ L61 := fun b hb => sb66 b (hsb46 b hb)
  have hf70 := (fr65 mo hm47 ).trans hf57
  have hm69 := sb66 _ hm47
  have hf72 := (fr65 ar11 hm49 ).trans hf54
  have hm71 := sb66 _ hm49
  subst er64
  refine lv_if_eq (tgt := 124) hx hb dX11_planLine_111 (by decide) (fun c73 => ?_) (fun c73 => absurd (by decide) c73)
  refine lv_iconst (v := (-1)) hx hb dX11_planLine_124 (by decide) ?_
  refine pl_iast hx hb hG.1 hP hD hS hm71 0 hf72 rfl (by unfold vp_in; decide) dX11_planLine_125 (fun H locs f74 hf76 ho75 hP hD hS => ?_)
  obtain ⟨r77, er77⟩ : ∃ r : Nat → Int32, r = upd (r55) (2 : Int32).toNatClampNeg ((-1)) := ⟨_, rfl⟩
  rw [← er77] at hf76
  have hfr78 : ∀ b, b ∈ L → b ≠ mo → b ≠ ar11 → f74 b = f b := fun b hb z0 z1 => (ho75 b z1).trans (hfr67 b hb z0 z1)
  have hf79 := (ho75 mo (kno hf70 hf72)).trans hf70
  refine lv_aload_n hx hb dX11_planLine_126 rfl (lv_at hl 2 rfl) ?_
  refine pl_get (v := .ref ar11) hx hb hts (fun w h => mT (inX11 w h)) hown hG.1 hP hm69 hf79 rfl 11 (by decide) (hts _ (mT wg_1347)) (fun _ h => h) rfl dX11_planLine_127 ?_
  refine lv_iload_n hx hb dX11_planLine_130 rfl (lv_at hl 0 rfl) ?_
  refine lv_iconst (v := 3) hx hb dX11_planLine_131 (by decide) ?_
  refine lv_iadd hx hb dX11_planLine_132 ?_
  refine lv_topi (fun x80 ex80 => ?_)
  obtain rfl : x80 = 3 := ex80.trans (by decide)
  refine lv_aload_n hx hb dX11_planLine_133 rfl (lv_at hl 2 rfl) ?_
  refine pl_get (v := .int (-1)) hx hb hts (fun w h => mT (inX11 w h)) hown hG.1 hP hm69 hf79 rfl 4 (by decide) (hts _ (mT wg_1340)) (fun _ h => h) rfl dX11_planLine_134 ?_
  refine lv_iconst (v := (-1)) hx hb dX11_planLine_137 (by decide) ?_
  refine lv_icmp_ne (tgt := 160) hx hb dX11_planLine_138 (by decide) (fun c81 => absurd rfl c81) (fun c81 => ?_)
  refine lv_aload_n hx hb dX11_planLine_141 rfl (lv_at hl 2 rfl) ?_
  refine va_ldcS hx hb hown (hG.2.2.1 ("RulerWordModel", 193, "to", 11) (by decide +kernel)) dX11_planLine_142 ?_
  refine call_i (run_V (rm := { frames := 2, cells := 0, slots := 0, locals := 40 }) hx hb hml hown hts (k_X11_takes l g _ _ _ mo ar1 ar7 ar10 ar11 ar24 ar26 ar27 ar28 ar29 ar30 ar31 ar32 ar33 ar34 ar35 ar41 ar42 ar43 ar44 ar49 ar52 ar54 11 (-1) 0 0 hm69 hf79 (by decide) (by decide)) cV_X11_takes wg_1542 ⟨Nat.le_of_ble_eq_true rfl, Nat.le_of_ble_eq_true rfl⟩ hG hE hA hP hD hS hm69 hf79 rfl rfl hl.1 (As := [.ref (g.2.2.1 11)]) (rest := [.int 3, .ref ar11]) rfl (Nat.le_of_ble_eq_true rfl) dX11_planLine_144 ⟨Nat.le_of_ble_eq_true rfl, Nat.le_of_ble_eq_true rfl⟩) hA hD hS (fun r82 L83 f84 H locs hp85 hP hD hS => ?_)
  obtain ⟨er86, fr87, sb88⟩ := hp85
  have hfr89 : ∀ b, b ∈ L → b ≠ mo → b ≠ ar11 → f84 b = f b := fun b hb z0 z1 => (fr87 b (hsb68 b hb) ).trans (hfr78 b hb z0 z1)
  have hsb90 : ∀ b, b ∈ L → b ∈ L83 := fun b hb => sb88 b (hsb68 b hb)
  have hf92 := (fr87 mo hm69 ).trans hf79
  have hm91 := sb88 _ hm69
  have hf94 := (fr87 ar11 hm71 ).trans hf76
  have hm93 := sb88 _ hm71
  subst er86
  refine lv_if_eq (tgt := 160) hx hb dX11_planLine_147 (by decide) (fun c95 => ?_) (fun c95 => absurd (by decide) c95)
  refine lv_iconst (v := (-1)) hx hb dX11_planLine_160 (by decide) ?_
  refine pl_iast hx hb hG.1 hP hD hS hm93 0 hf94 rfl (by unfold vp_in; decide) dX11_planLine_161 (fun H locs f96 hf98 ho97 hP hD hS => ?_)
  obtain ⟨r99, er99⟩ : ∃ r : Nat → Int32, r = upd (r77) (3 : Int32).toNatClampNeg ((-1)) := ⟨_, rfl⟩
  rw [← er99] at hf98
  have hfr100 : ∀ b, b ∈ L → b ≠ mo → b ≠ ar11 → f96 b = f b := fun b hb z0 z1 => (ho97 b z1).trans (hfr89 b hb z0 z1)
  have hf101 := (ho97 mo (kno hf92 hf94)).trans hf92
  refine lv_aload_n hx hb dX11_planLine_162 rfl (lv_at hl 2 rfl) ?_
  refine pl_get (v := .int (-1)) hx hb hts (fun w h => mT (inX11 w h)) hown hG.1 hP hm91 hf101 rfl 4 (by decide) (hts _ (mT wg_1340)) (fun _ h => h) rfl dX11_planLine_163 ?_
  refine lv_iconst (v := (-1)) hx hb dX11_planLine_166 (by decide) ?_
  refine lv_icmp_eq (tgt := 171) hx hb dX11_planLine_167 (by decide) (fun c102 => ?_) (fun c102 => absurd (by decide) c102)
  refine lv_aload_n hx hb dX11_planLine_171 rfl (lv_at hl 2 rfl) ?_
  refine call_i (run_V (rm := { frames := 1, cells := 0, slots := 0, locals := 20 }) hx hb hml hown hts (k_X11_look l g _ _ _ mo ar1 ar7 ar10 ar11 ar24 ar26 ar27 ar28 ar29 ar30 ar31 ar32 ar33 ar34 ar35 ar41 ar42 ar43 ar44 ar49 ar52 ar54 (-1) 0 0 hm91 hf101) cV_X11_look wg_1533 ⟨Nat.le_of_ble_eq_true rfl, Nat.le_of_ble_eq_true rfl⟩ hG hE hA hP hD hS hm91 hf101 rfl rfl hl.1 (As := []) (rest := []) rfl (Nat.le_of_ble_eq_true rfl) dX11_planLine_172 ⟨Nat.le_of_ble_eq_true rfl, Nat.le_of_ble_eq_true rfl⟩) hA hD hS (fun r103 L104 f105 H locs hp106 hP hD hS => ?_)
  obtain ⟨er107, fr108, sb109⟩ := hp106
  have hfr110 : ∀ b, b ∈ L → b ≠ mo → b ≠ ar11 → f105 b = f b := fun b hb z0 z1 => (fr108 b (hsb90 b hb) ).trans (hfr100 b hb z0 z1)
  have hsb111 : ∀ b, b ∈ L → b ∈ L104 := fun b hb => sb109 b (hsb90 b hb)
  have hf113 := (fr108 mo hm91 ).trans hf101
  have hm112 := sb109 _ hm91
  have hf115 := (fr108 ar11 hm93 ).trans hf98
  have hm114 := sb109 _ hm93
  subst er107
  refine lv_istore_n (lv' := [(1, .int (-1)), (2, .int 0), (0, .ref mo)]) hx hb dX11_planLine_175 rfl hl (by decide) rfl (fun ls hl => ?_)
  refine lv_iload_n hx hb dX11_planLine_176 rfl (lv_at hl 0 rfl) ?_
  refine call_i (run_S (rm := { frames := 0, cells := 0, slots := 0, locals := 0 }) hx hb hml hown hts (k_X11_isDigit l g _ _ _ ) cS_X11_isDigit wg_1578 ⟨Nat.le_of_ble_eq_true rfl, Nat.le_of_ble_eq_true rfl⟩ hG hE hA hP hD hS rfl hl.1 (As := [.int (-1)]) (rest := []) rfl (Nat.le_of_ble_eq_true rfl) dX11_planLine_177 ⟨Nat.le_of_ble_eq_true rfl, Nat.le_of_ble_eq_true rfl⟩) hA hD hS (fun r116 L117 f118 H locs hp119 hP hD hS => ?_)
  obtain ⟨er120, fr121, sb122⟩ := hp119
  have hfr123 : ∀ b, b ∈ L → b ≠ mo → b ≠ ar11 → f118 b = f b := fun b hb z0 z1 => (fr121 b (hsb111 b hb) ).trans (hfr110 b hb z0 z1)
  have hsb124 : ∀ b, b ∈ L → b ∈ L117 := fun b hb => sb122 b (hsb111 b hb)
  have hf126 := (fr121 mo hm112 ).trans hf113
  have hm125 := sb122 _ hm112
  have hf128 := (fr121 ar11 hm114 ).trans hf115
  have hm127 := sb122 _ hm114
  subst er120
  refine lv_if_eq (tgt := 200) hx hb dX11_planLine_180 (by decide) (fun c129 => ?_) (fun c129 => absurd (by decide) c129)
  refine lv_aload_n hx hb dX11_planLine_200 rfl (lv_at hl 2 rfl) ?_
  refine va_ldcS hx hb hown (hG.2.2.1 ("RulerWordModel", 195, "same", 12) (by decide +kernel)) dX11_planLine_201 ?_
  refine call_i (run_V (rm := { frames := 2, cells := 0, slots := 0, locals := 40 }) hx hb hml hown hts (k_X11_takes l g _ _ _ mo ar1 ar7 ar10 ar11 ar24 ar26 ar27 ar28 ar29 ar30 ar31 ar32 ar33 ar34 ar35 ar41 ar42 ar43 ar44 ar49 ar52 ar54 12 (-1) 0 0 hm125 hf126 (by decide) (by decide)) cV_X11_takes wg_1542 ⟨Nat.le_of_ble_eq_true rfl, Nat.le_of_ble_eq_true rfl⟩ hG hE hA hP hD hS hm125 hf126 rfl rfl hl.1 (As := [.ref (g.2.2.1 12)]) (rest := []) rfl (Nat.le_of_ble_eq_true rfl) dX11_planLine_203 ⟨Nat.le_of_ble_eq_true rfl, Nat.le_of_ble_eq_true rfl⟩) hA hD hS (fun r130 L131 f132 H locs hp133 hP hD hS => ?_)
  obtain ⟨er134, fr135, sb136⟩ := hp133
  have hfr137 : ∀ b, b ∈ L → b ≠ mo → b ≠ ar11 → f132 b = f b := fun b hb z0 z1 => (fr135 b (hsb124 b hb) ).trans (hfr123 b hb z0 z1)
  have hsb138 : ∀ b, b ∈ L → b ∈ L131 := fun b hb => sb136 b (hsb124 b hb)
  have hf140 := (fr135 mo hm125 ).trans hf126
  have hm139 := sb136 _ hm125
  have hf142 := (fr135 ar11 hm127 ).trans hf128
  have hm141 := sb136 _ hm127
  subst er134
  refine lv_if_eq (tgt := 221) hx hb dX11_planLine_206 (by decide) (fun c143 => ?_) (fun c143 => absurd (by decide) c143)
  refine lv_aload_n hx hb dX11_planLine_221 rfl (lv_at hl 2 rfl) ?_
  refine va_ldcS hx hb hown (hG.2.2.1 ("RulerWordModel", 197, "turn", 13) (by decide +kernel)) dX11_planLine_222 ?_
  refine call_i (run_V (rm := { frames := 2, cells := 0, slots := 0, locals := 40 }) hx hb hml hown hts (k_X11_takes l g _ _ _ mo ar1 ar7 ar10 ar11 ar24 ar26 ar27 ar28 ar29 ar30 ar31 ar32 ar33 ar34 ar35 ar41 ar42 ar43 ar44 ar49 ar52 ar54 13 (-1) 0 0 hm139 hf140 (by decide) (by decide)) cV_X11_takes wg_1542 ⟨Nat.le_of_ble_eq_true rfl, Nat.le_of_ble_eq_true rfl⟩ hG hE hA hP hD hS hm139 hf140 rfl rfl hl.1 (As := [.ref (g.2.2.1 13)]) (rest := []) rfl (Nat.le_of_ble_eq_true rfl) dX11_planLine_224 ⟨Nat.le_of_ble_eq_true rfl, Nat.le_of_ble_eq_true rfl⟩) hA hD hS (fun r144 L145 f146 H locs hp147 hP hD hS => ?_)
  obtain ⟨er148, fr149, sb150⟩ := hp147
  have hfr151 : ∀ b, b ∈ L → b ≠ mo → b ≠ ar11 → f146 b = f b := fun b hb z0 z1 => (fr149 b (hsb138 b hb) ).trans (hfr137 b hb z0 z1)
  have hsb152 : ∀ b, b ∈ L → b ∈ L145 := fun b hb => sb150 b (hsb138 b hb)
  have hf154 := (fr149 mo hm139 ).trans hf140
  have hm153 := sb150 _ hm139
  have hf156 := (fr149 ar11 hm141 ).trans hf142
  have hm155 := sb150 _ hm141
  subst er148
  refine lv_if_eq (tgt := 242) hx hb dX11_planLine_227 (by decide) (fun c157 => ?_) (fun c157 => absurd (by decide) c157)
  refine lv_aload_n hx hb dX11_planLine_242 rfl (lv_at hl 2 rfl) ?_
  refine va_ldcS hx hb hown (hG.2.2.1 ("RulerWordModel", 199, "split", 14) (by decide +kernel)) dX11_planLine_243 ?_
  refine call_i (run_V (rm := { frames := 2, cells := 0, slots := 0, locals := 40 }) hx hb hml hown hts (k_X11_takes l g _ _ _ mo ar1 ar7 ar10 ar11 ar24 ar26 ar27 ar28 ar29 ar30 ar31 ar32 ar33 ar34 ar35 ar41 ar42 ar43 ar44 ar49 ar52 ar54 14 (-1) 0 0 hm153 hf154 (by decide) (by decide)) cV_X11_takes wg_1542 ⟨Nat.le_of_ble_eq_true rfl, Nat.le_of_ble_eq_true rfl⟩ hG hE hA hP hD hS hm153 hf154 rfl rfl hl.1 (As := [.ref (g.2.2.1 14)]) (rest := []) rfl (Nat.le_of_ble_eq_true rfl) dX11_planLine_245 ⟨Nat.le_of_ble_eq_true rfl, Nat.le_of_ble_eq_true rfl⟩) hA hD hS (fun r158 L159 f160 H locs hp161 hP hD hS => ?_)
  obtain ⟨er162, fr163, sb164⟩ := hp161
  have hfr165 : ∀ b, b ∈ L → b ≠ mo → b ≠ ar11 → f160 b = f b := fun b hb z0 z1 => (fr163 b (hsb152 b hb) ).trans (hfr151 b hb z0 z1)
  have hsb166 : ∀ b, b ∈ L → b ∈ L159 := fun b hb => sb164 b (hsb152 b hb)
  have hf168 := (fr163 mo hm153 ).trans hf154
  have hm167 := sb164 _ hm153
  have hf170 := (fr163 ar11 hm155 ).trans hf156
  have hm169 := sb164 _ hm155
  subst er162
  refine lv_if_eq (tgt := 263) hx hb dX11_planLine_248 (by decide) (fun c171 => ?_) (fun c171 => absurd (by decide) c171)
  refine lv_aload_n hx hb dX11_planLine_263 rfl (lv_at hl 2 rfl) ?_
  refine va_ldcS hx hb hown (hG.2.2.1 ("RulerWordModel", 201, "draw", 15) (by decide +kernel)) dX11_planLine_264 ?_
  refine call_i (run_V (rm := { frames := 2, cells := 0, slots := 0, locals := 40 }) hx hb hml hown hts (k_X11_takes l g _ _ _ mo ar1 ar7 ar10 ar11 ar24 ar26 ar27 ar28 ar29 ar30 ar31 ar32 ar33 ar34 ar35 ar41 ar42 ar43 ar44 ar49 ar52 ar54 15 (-1) 0 0 hm167 hf168 (by decide) (by decide)) cV_X11_takes wg_1542 ⟨Nat.le_of_ble_eq_true rfl, Nat.le_of_ble_eq_true rfl⟩ hG hE hA hP hD hS hm167 hf168 rfl rfl hl.1 (As := [.ref (g.2.2.1 15)]) (rest := []) rfl (Nat.le_of_ble_eq_true rfl) dX11_planLine_266 ⟨Nat.le_of_ble_eq_true rfl, Nat.le_of_ble_eq_true rfl⟩) hA hD hS (fun r172 L173 f174 H locs hp175 hP hD hS => ?_)
  obtain ⟨er176, fr177, sb178⟩ := hp175
  have hfr179 : ∀ b, b ∈ L → b ≠ mo → b ≠ ar11 → f174 b = f b := fun b hb z0 z1 => (fr177 b (hsb166 b hb) ).trans (hfr165 b hb z0 z1)
  have hsb180 : ∀ b, b ∈ L → b ∈ L173 := fun b hb => sb178 b (hsb166 b hb)
  have hf182 := (fr177 mo hm167 ).trans hf168
  have hm181 := sb178 _ hm167
  have hf184 := (fr177 ar11 hm169 ).trans hf170
  have hm183 := sb178 _ hm169
  subst er176
  refine lv_if_eq (tgt := 285) hx hb dX11_planLine_269 (by decide) (fun c185 => ?_) (fun c185 => absurd (by decide) c185)
  refine lv_aload_n hx hb dX11_planLine_285 rfl (lv_at hl 2 rfl) ?_
  refine lv_aload_n hx hb dX11_planLine_286 rfl (lv_at hl 2 rfl) ?_
  refine pl_get (v := .int 0) hx hb hts (fun w h => mT (inX11 w h)) hown hG.1 hP hm181 hf182 rfl 3 (by decide) (hts _ (mT wg_1339)) (fun _ h => h) rfl dX11_planLine_287 ?_
  refine call_v (run_V (rm := { frames := 0, cells := 0, slots := 0, locals := 0 }) hx hb hml hown hts (k_X11_fails l g _ _ _ mo ar1 ar7 ar10 ar11 ar24 ar26 ar27 ar28 ar29 ar30 ar31 ar32 ar33 ar34 ar35 ar41 ar42 ar43 ar44 ar49 ar52 ar54 0 0 0 hm181 hf182) cV_X11_fails wg_1549 ⟨Nat.le_of_ble_eq_true rfl, Nat.le_of_ble_eq_true rfl⟩ hG hE hA hP hD hS hm181 hf182 rfl rfl hl.1 (As := [.int 0]) (rest := []) rfl (Nat.le_of_ble_eq_true rfl) dX11_planLine_290 ⟨Nat.le_of_ble_eq_true rfl, Nat.le_of_ble_eq_true rfl⟩) hA hD hS (fun L187 f188 H locs hp189 hP hD hS => ?_)
  obtain ⟨hf190, fr191, sb192⟩ := hp189
  have hfr193 : ∀ b, b ∈ L → b ≠ mo → b ≠ ar11 → f188 b = f b := fun b hb z0 z1 => (fr191 b (hsb180 b hb) z0).trans (hfr179 b hb z0 z1)
  have hsb194 : ∀ b, b ∈ L → b ∈ L187 := fun b hb => sb192 b (hsb180 b hb)
  have hm195 := sb192 _ hm181
  have hf197 := (fr191 ar11 hm183 (kno hf182 hf184).symm).trans hf184
  have hm196 := sb192 _ hm183
  refine lv_aload_n hx hb dX11_planLine_293 rfl (lv_at hl 2 rfl) ?_
  refine lv_dup hx hb dX11_planLine_294 rfl ?_
  refine pl_get (v := .int 0) hx hb hts (fun w h => mT (inX11 w h)) hown hG.1 hP hm195 hf190 rfl 13 (by decide) (hts _ (mT wg_1349)) (fun _ h => h) rfl dX11_planLine_295 ?_
  refine lv_iconst (v := 1) hx hb dX11_planLine_298 (by decide) ?_
  refine lv_iadd hx hb dX11_planLine_299 ?_
  refine lv_topi (fun x198 ex198 => ?_)
  obtain rfl : x198 = 1 := ex198.trans (by decide)
  refine pl_put (ty := .int) (v := .int 1) (fs' := [.int 0, .ref ar1, .int 0, .int 0, .int 0, .int 0, .int 0, .ref ar7, .int 0, .int 0, .ref ar10, .ref ar11, .int 0, .int 1, .int 0, .int 0, .int 0, .int 0, .int 0, .int 0, .int 0, .long 0, .long 0, .int 0, .ref ar24, .int 0, .ref ar26, .ref ar27, .ref ar28, .ref ar29, .ref ar30, .ref ar31, .ref ar32, .ref ar33, .ref ar34, .ref ar35, .int 0, .int 0, .int 0, .int 0, .int 0, .ref ar41, .ref ar42, .ref ar43, .ref ar44, .long 0, .long 0, .int 0, .int 0, .ref ar49, .int 0, .int 0, .ref ar52, .int 0, .ref ar54, .int 0]) hx hb hts (fun w h => mT (inX11 w h)) tyX11 tyX11_ok nmX11 hown hG.1 hP hD hS hm195 hf190 rfl 13 (by decide) (hts _ (mT wg_1349)) (fun _ h => h) rfl (by decide +kernel) (rfl) (rfl) (Nat.le_of_ble_eq_true rfl) rfl dX11_planLine_300 (fun H locs f199 hf201 ho200 hP hD hS => ?_)
  have hfr202 : ∀ b, b ∈ L → b ≠ mo → b ≠ ar11 → f199 b = f b := fun b hb z0 z1 => (ho200 b z0).trans (hfr193 b hb z0 z1)
  have hf203 := (ho200 ar11 (kno hf190 hf197).symm).trans hf197
  exact ret_v hx hb hr hlocks hP hD hS (Nat.le_of_ble_eq_true rfl) (Nat.le_of_ble_eq_true rfl) (⟨r99, hf201, hf203, hfr202, hsb194⟩) dX11_planLine_303

set_option maxHeartbeats 4000000 in
set_option maxRecDepth 100000 in
theorem k_X11_readsPlan (l : Launch) (g : GG) (L : List Nat) (f : HP) (sz : Nat) (mo ar1 ar7 ar10 ar11 ar24 ar26 ar27 ar28 ar29 ar30 ar31 ar32 ar33 ar34 ar35 ar41 ar42 ar43 ar44 ar49 ar52 ar54 : Nat) (hm_mo : mo ∈ L) (hf_mo : f mo = .inr (10, [.int 0, .ref ar1, .int 0, .int 0, .int 0, .int 0, .int 0, .ref ar7, .int 0, .int 0, .ref ar10, .ref ar11, .int 0, .int 0, .int 0, .int 0, .int 0, .int 0, .int 0, .int 0, .int 0, .long 0, .long 0, .int 0, .ref ar24, .int 0, .ref ar26, .ref ar27, .ref ar28, .ref ar29, .ref ar30, .ref ar31, .ref ar32, .ref ar33, .ref ar34, .ref ar35, .int 0, .int 0, .int 0, .int 0, .int 0, .ref ar41, .ref ar42, .ref ar43, .ref ar44, .long 0, .long 0, .int 0, .int 0, .ref ar49, .int 0, .int 0, .ref ar52, .int 0, .ref ar54, .int 0])) (hm_ar11 : ar11 ∈ L) (hf_ar11 : f ar11 = .inl (g.2.1 0, 100, .inl (fun _ => 0))) : MtI l g yX11_readsPlan cX11_readsPlan 1 (some .int) ({ frames := 4, cells := 0, slots := 0, locals := 85 }) [.ref mo] L f sz (fun r u => ∃ (r11 : Nat → Int32), u.2 mo = .inr (10, [.int 0, .ref ar1, .int 0, .int 0, .int 0, .int 0, .int 0, .ref ar7, .int 0, .int 0, .ref ar10, .ref ar11, .int 0, .int 1, .int 0, .int 0, .int 0, .int 0, .int 0, .int 0, .int 0, .long 0, .long 0, .int 0, .ref ar24, .int 0, .ref ar26, .ref ar27, .ref ar28, .ref ar29, .ref ar30, .ref ar31, .ref ar32, .ref ar33, .ref ar34, .ref ar35, .int 0, .int 0, .int 0, .int 0, .int 0, .ref ar41, .ref ar42, .ref ar43, .ref ar44, .long 0, .long 0, .int 0, .int 0, .ref ar49, .int 0, .int 0, .ref ar52, .int 0, .ref ar54, .int 0]) ∧ u.2 ar11 = .inl (g.2.1 0, 100, .inl (r11)) ∧ r = 0 ∧ (∀ b, b ∈ L → b ≠ mo → b ≠ ar11 → u.2 b = f b) ∧ (∀ b, b ∈ L → b ∈ u.1)) := by
  refine MtI.of (by decide +kernel) (Nat.le_of_ble_eq_true rfl) ?_
  intro p e s m below meth c A hEn hP hD hS ls hl
  obtain ⟨hx, hb, hr, hml, hown, hlocks, hts, hG, hA, hE, hnm⟩ := hEn
  have hown : s.vm.findClass "RulerWordModel" = some m.cls := hown
  have hl : lv_has ls 1 [(0, .ref mo)] := hl
  have hfr0 : ∀ b, b ∈ L → b ≠ mo → b ≠ ar11 → f b = f b := fun b hb z0 z1 => rfl
  have hsb0 : ∀ b, b ∈ L → b ∈ L := fun b hb => hb
  refine lv_aload_n hx hb dX11_readsPlan_0 rfl (lv_at hl 0 rfl) ?_
  refine lv_iconst (v := 0) hx hb dX11_readsPlan_1 (by decide) ?_
  refine pl_put (ty := .int) (v := .int 0) (fs' := [.int 0, .ref ar1, .int 0, .int 0, .int 0, .int 0, .int 0, .ref ar7, .int 0, .int 0, .ref ar10, .ref ar11, .int 0, .int 0, .int 0, .int 0, .int 0, .int 0, .int 0, .int 0, .int 0, .long 0, .long 0, .int 0, .ref ar24, .int 0, .ref ar26, .ref ar27, .ref ar28, .ref ar29, .ref ar30, .ref ar31, .ref ar32, .ref ar33, .ref ar34, .ref ar35, .int 0, .int 0, .int 0, .int 0, .int 0, .ref ar41, .ref ar42, .ref ar43, .ref ar44, .long 0, .long 0, .int 0, .int 0, .ref ar49, .int 0, .int 0, .ref ar52, .int 0, .ref ar54, .int 0]) hx hb hts (fun w h => mT (inX11 w h)) tyX11 tyX11_ok nmX11 hown hG.1 hP hD hS hm_mo hf_mo rfl 3 (by decide) (hts _ (mT wg_1339)) (fun _ h => h) rfl (by decide +kernel) (rfl) (rfl) (Nat.le_of_ble_eq_true rfl) rfl dX11_readsPlan_2 (fun H locs f1 hf3 ho2 hP hD hS => ?_)
  have hfr4 : ∀ b, b ∈ L → b ≠ mo → b ≠ ar11 → f1 b = f b := fun b hb z0 z1 => (ho2 b z0).trans (hfr0 b hb z0 z1)
  have hf5 := (ho2 ar11 (kno hf_mo hf_ar11).symm).trans hf_ar11
  refine lv_aload_n hx hb dX11_readsPlan_5 rfl (lv_at hl 0 rfl) ?_
  refine lv_iconst (v := (-1)) hx hb dX11_readsPlan_6 (by decide) ?_
  refine pl_put (ty := .int) (v := .int (-1)) (fs' := [.int 0, .ref ar1, .int 0, .int 0, .int (-1), .int 0, .int 0, .ref ar7, .int 0, .int 0, .ref ar10, .ref ar11, .int 0, .int 0, .int 0, .int 0, .int 0, .int 0, .int 0, .int 0, .int 0, .long 0, .long 0, .int 0, .ref ar24, .int 0, .ref ar26, .ref ar27, .ref ar28, .ref ar29, .ref ar30, .ref ar31, .ref ar32, .ref ar33, .ref ar34, .ref ar35, .int 0, .int 0, .int 0, .int 0, .int 0, .ref ar41, .ref ar42, .ref ar43, .ref ar44, .long 0, .long 0, .int 0, .int 0, .ref ar49, .int 0, .int 0, .ref ar52, .int 0, .ref ar54, .int 0]) hx hb hts (fun w h => mT (inX11 w h)) tyX11 tyX11_ok nmX11 hown hG.1 hP hD hS hm_mo hf3 rfl 4 (by decide) (hts _ (mT wg_1340)) (fun _ h => h) rfl (by decide +kernel) (rfl) (rfl) (Nat.le_of_ble_eq_true rfl) rfl dX11_readsPlan_7 (fun H locs f6 hf8 ho7 hP hD hS => ?_)
  have hfr9 : ∀ b, b ∈ L → b ≠ mo → b ≠ ar11 → f6 b = f b := fun b hb z0 z1 => (ho7 b z0).trans (hfr4 b hb z0 z1)
  have hf10 := (ho7 ar11 (kno hf3 hf5).symm).trans hf5
  refine lv_aload_n hx hb dX11_readsPlan_10 rfl (lv_at hl 0 rfl) ?_
  refine lv_iconst (v := 0) hx hb dX11_readsPlan_11 (by decide) ?_
  refine pl_put (ty := .int) (v := .int 0) (fs' := [.int 0, .ref ar1, .int 0, .int 0, .int (-1), .int 0, .int 0, .ref ar7, .int 0, .int 0, .ref ar10, .ref ar11, .int 0, .int 0, .int 0, .int 0, .int 0, .int 0, .int 0, .int 0, .int 0, .long 0, .long 0, .int 0, .ref ar24, .int 0, .ref ar26, .ref ar27, .ref ar28, .ref ar29, .ref ar30, .ref ar31, .ref ar32, .ref ar33, .ref ar34, .ref ar35, .int 0, .int 0, .int 0, .int 0, .int 0, .ref ar41, .ref ar42, .ref ar43, .ref ar44, .long 0, .long 0, .int 0, .int 0, .ref ar49, .int 0, .int 0, .ref ar52, .int 0, .ref ar54, .int 0]) hx hb hts (fun w h => mT (inX11 w h)) tyX11 tyX11_ok nmX11 hown hG.1 hP hD hS hm_mo hf8 rfl 13 (by decide) (hts _ (mT wg_1349)) (fun _ h => h) rfl (by decide +kernel) (rfl) (rfl) (Nat.le_of_ble_eq_true rfl) rfl dX11_readsPlan_12 (fun H locs f11 hf13 ho12 hP hD hS => ?_)
  have hfr14 : ∀ b, b ∈ L → b ≠ mo → b ≠ ar11 → f11 b = f b := fun b hb z0 z1 => (ho12 b z0).trans (hfr9 b hb z0 z1)
  have hf15 := (ho12 ar11 (kno hf8 hf10).symm).trans hf10
  refine lv_aload_n hx hb dX11_readsPlan_15 rfl (lv_at hl 0 rfl) ?_
  refine call_v (run_V (rm := { frames := 3, cells := 0, slots := 0, locals := 63 }) hx hb hml hown hts (k_X11_planLine l g _ _ _ mo ar1 ar7 ar10 ar11 ar24 ar26 ar27 ar28 ar29 ar30 ar31 ar32 ar33 ar34 ar35 ar41 ar42 ar43 ar44 ar49 ar52 ar54 hm_mo hf13 hm_ar11 hf15) cV_X11_planLine wg_1600 ⟨Nat.le_of_ble_eq_true rfl, Nat.le_of_ble_eq_true rfl⟩ hG hE hA hP hD hS hm_mo hf13 rfl rfl hl.1 (As := []) (rest := []) rfl (Nat.le_of_ble_eq_true rfl) dX11_readsPlan_16 ⟨Nat.le_of_ble_eq_true rfl, Nat.le_of_ble_eq_true rfl⟩) hA hD hS (fun L17 f18 H locs hp19 hP hD hS => ?_)
  obtain ⟨r20, hf21, hf22, fr23, sb24⟩ := hp19
  have hfr25 : ∀ b, b ∈ L → b ≠ mo → b ≠ ar11 → f18 b = f b := fun b hb z0 z1 => (fr23 b (hsb0 b hb) z0 z1).trans (hfr14 b hb z0 z1)
  have hsb26 : ∀ b, b ∈ L → b ∈ L17 := fun b hb => sb24 b (hsb0 b hb)
  have hm27 := sb24 _ hm_mo
  have hm28 := sb24 _ hm_ar11
  refine lv_aload_n hx hb dX11_readsPlan_19 rfl (lv_at hl 0 rfl) ?_
  refine pl_get (v := .int 0) hx hb hts (fun w h => mT (inX11 w h)) hown hG.1 hP hm27 hf21 rfl 4 (by decide) (hts _ (mT wg_1340)) (fun _ h => h) rfl dX11_readsPlan_20 ?_
  refine lv_iconst (v := (-1)) hx hb dX11_readsPlan_23 (by decide) ?_
  refine lv_icmp_ne (tgt := 53) hx hb dX11_readsPlan_24 (by decide) (fun c29 => ?_) (fun c29 => absurd c29 (by decide))
  refine lv_aload_n hx hb dX11_readsPlan_53 rfl (lv_at hl 0 rfl) ?_
  refine pl_get (v := .int 0) hx hb hts (fun w h => mT (inX11 w h)) hown hG.1 hP hm27 hf21 rfl 4 (by decide) (hts _ (mT wg_1340)) (fun _ h => h) rfl dX11_readsPlan_54 ?_
  refine lv_iconst (v := (-1)) hx hb dX11_readsPlan_57 (by decide) ?_
  refine lv_icmp_ne (tgt := 77) hx hb dX11_readsPlan_58 (by decide) (fun c30 => ?_) (fun c30 => absurd c30 (by decide))
  refine lv_aload_n hx hb dX11_readsPlan_77 rfl (lv_at hl 0 rfl) ?_
  refine pl_get (v := .int 0) hx hb hts (fun w h => mT (inX11 w h)) hown hG.1 hP hm27 hf21 rfl 4 (by decide) (hts _ (mT wg_1340)) (fun _ h => h) rfl dX11_readsPlan_78 ?_
  exact ret_i (ty := .int) hx hb hr hlocks (rfl) hP hD hS (Nat.le_of_ble_eq_true rfl) (Nat.le_of_ble_eq_true rfl) (⟨r20, hf21, hf22, rfl, hfr25, hsb26⟩) dX11_readsPlan_81

set_option maxHeartbeats 4000000 in
set_option maxRecDepth 100000 in
theorem k_X11_over (l : Launch) (g : GG) (L : List Nat) (f : HP) (sz : Nat) (mo ar1 ar7 ar10 ar11 ar24 ar26 ar27 ar28 ar29 ar30 ar31 ar32 ar33 ar34 ar35 ar41 ar42 ar43 ar44 ar49 ar52 ar54 : Nat) (hm_mo : mo ∈ L) (hf_mo : f mo = .inr (10, [.int 0, .ref ar1, .int 0, .int 0, .int 0, .int 0, .int 0, .ref ar7, .int 0, .int 0, .ref ar10, .ref ar11, .int 0, .int 0, .int 0, .int 0, .int 0, .int 0, .int 0, .int 0, .int 0, .long 0, .long 0, .int 0, .ref ar24, .int 0, .ref ar26, .ref ar27, .ref ar28, .ref ar29, .ref ar30, .ref ar31, .ref ar32, .ref ar33, .ref ar34, .ref ar35, .int 0, .int 0, .int 0, .int 0, .int 0, .ref ar41, .ref ar42, .ref ar43, .ref ar44, .long 0, .long 0, .int 0, .int 0, .ref ar49, .int 0, .int 0, .ref ar52, .int 0, .ref ar54, .int 0])) : MtI l g yX11_over cX11_over 1 (some .int) ({ frames := 0, cells := 0, slots := 0, locals := 0 }) [.ref mo] L f sz (fun r u => r = 0 ∧ (∀ b, b ∈ L → u.2 b = f b) ∧ (∀ b, b ∈ L → b ∈ u.1)) := by
  refine MtI.of (by decide +kernel) (Nat.le_of_ble_eq_true rfl) ?_
  intro p e s m below meth c A hEn hP hD hS ls hl
  obtain ⟨hx, hb, hr, hml, hown, hlocks, hts, hG, hA, hE, hnm⟩ := hEn
  have hown : s.vm.findClass "RulerWordModel" = some m.cls := hown
  have hl : lv_has ls 1 [(0, .ref mo)] := hl
  have hfr0 : ∀ b, b ∈ L → f b = f b := fun b hb  => rfl
  have hsb0 : ∀ b, b ∈ L → b ∈ L := fun b hb => hb
  refine lv_aload_n hx hb dX11_over_0 rfl (lv_at hl 0 rfl) ?_
  refine pl_get (v := .int 0) hx hb hts (fun w h => mT (inX11 w h)) hown hG.1 hP hm_mo hf_mo rfl 23 (by decide) (hts _ (mT wg_1359)) (fun _ h => h) rfl dX11_over_1 ?_
  refine lv_if_eq (tgt := 22) hx hb dX11_over_4 (by decide) (fun c1 => ?_) (fun c1 => absurd (by decide) c1)
  refine lv_iconst (v := 0) hx hb dX11_over_22 (by decide) ?_
  exact ret_i (ty := .int) hx hb hr hlocks (rfl) hP hD hS (Nat.le_of_ble_eq_true rfl) (Nat.le_of_ble_eq_true rfl) (⟨rfl, hfr0, hsb0⟩) dX11_over_23

set_option maxHeartbeats 4000000 in
set_option maxRecDepth 100000 in
theorem k_X11_isPeer (l : Launch) (g : GG) (L : List Nat) (f : HP) (sz : Nat) (mo ar1 ar7 ar10 ar11 ar24 ar26 ar27 ar28 ar29 ar30 ar31 ar32 ar33 ar34 ar35 ar41 ar42 ar43 ar44 ar49 ar52 ar54 : Nat) (i : Int32) (hm_mo : mo ∈ L) (hf_mo : f mo = .inr (10, [.int 0, .ref ar1, .int 0, .int 0, .int 0, .int 0, .int 0, .ref ar7, .int 0, .int 0, .ref ar10, .ref ar11, .int 0, .int 0, .int 0, .int 0, .int 0, .int 0, .int 0, .int 0, .int 0, .long 0, .long 0, .int 0, .ref ar24, .int 0, .ref ar26, .ref ar27, .ref ar28, .ref ar29, .ref ar30, .ref ar31, .ref ar32, .ref ar33, .ref ar34, .ref ar35, .int 0, .int 0, .int 0, .int 0, .int 0, .ref ar41, .ref ar42, .ref ar43, .ref ar44, .long 0, .long 0, .int 0, .int 0, .ref ar49, .int 0, .int 0, .ref ar52, .int 0, .ref ar54, .int 0])) : MtI l g yX11_isPeer cX11_isPeer 2 (some .boolean) ({ frames := 0, cells := 0, slots := 0, locals := 0 }) [.ref mo, .int i] L f sz (fun r u => r = 0 ∧ (∀ b, b ∈ L → u.2 b = f b) ∧ (∀ b, b ∈ L → b ∈ u.1)) := by
  refine MtI.of (by decide +kernel) (Nat.le_of_ble_eq_true rfl) ?_
  intro p e s m below meth c A hEn hP hD hS ls hl
  obtain ⟨hx, hb, hr, hml, hown, hlocks, hts, hG, hA, hE, hnm⟩ := hEn
  have hown : s.vm.findClass "RulerWordModel" = some m.cls := hown
  have hl : lv_has ls 2 [(0, .ref mo), (1, .int i)] := hl
  have hfr0 : ∀ b, b ∈ L → f b = f b := fun b hb  => rfl
  have hsb0 : ∀ b, b ∈ L → b ∈ L := fun b hb => hb
  refine lv_aload_n hx hb dX11_isPeer_0 rfl (lv_at hl 0 rfl) ?_
  refine pl_get (v := .int 0) hx hb hts (fun w h => mT (inX11 w h)) hown hG.1 hP hm_mo hf_mo rfl 23 (by decide) (hts _ (mT wg_1359)) (fun _ h => h) rfl dX11_isPeer_1 ?_
  refine lv_if_eq (tgt := 27) hx hb dX11_isPeer_4 (by decide) (fun c1 => ?_) (fun c1 => absurd (by decide) c1)
  refine lv_iconst (v := 0) hx hb dX11_isPeer_27 (by decide) ?_
  exact ret_i (ty := .boolean) hx hb hr hlocks (rfl) hP hD hS (Nat.le_of_ble_eq_true rfl) (Nat.le_of_ble_eq_true rfl) (⟨rfl, hfr0, hsb0⟩) dX11_isPeer_28

set_option maxHeartbeats 4000000 in
set_option maxRecDepth 100000 in
theorem k_X11_isRound (l : Launch) (g : GG) (L : List Nat) (f : HP) (sz : Nat) (mo ar1 ar7 ar10 ar11 ar24 ar26 ar27 ar28 ar29 ar30 ar31 ar32 ar33 ar34 ar35 ar41 ar42 ar43 ar44 ar49 ar52 ar54 : Nat) (a : Int32) (b : Int32) (hm_mo : mo ∈ L) (hf_mo : f mo = .inr (10, [.int 0, .ref ar1, .int 0, .int 0, .int 0, .int 0, .int 0, .ref ar7, .int 0, .int 0, .ref ar10, .ref ar11, .int 0, .int 0, .int 0, .int 0, .int 0, .int 0, .int 0, .int 0, .int 0, .long 0, .long 0, .int 0, .ref ar24, .int 0, .ref ar26, .ref ar27, .ref ar28, .ref ar29, .ref ar30, .ref ar31, .ref ar32, .ref ar33, .ref ar34, .ref ar35, .int 0, .int 0, .int 0, .int 0, .int 0, .ref ar41, .ref ar42, .ref ar43, .ref ar44, .long 0, .long 0, .int 0, .int 0, .ref ar49, .int 0, .int 0, .ref ar52, .int 0, .ref ar54, .int 0])) : MtI l g yX11_isRound cX11_isRound 3 (some .boolean) ({ frames := 0, cells := 0, slots := 0, locals := 0 }) [.ref mo, .int a, .int b] L f sz (fun r u => r = 0 ∧ (∀ b, b ∈ L → u.2 b = f b) ∧ (∀ b, b ∈ L → b ∈ u.1)) := by
  refine MtI.of (by decide +kernel) (Nat.le_of_ble_eq_true rfl) ?_
  intro p e s m below meth c A hEn hP hD hS ls hl
  obtain ⟨hx, hb, hr, hml, hown, hlocks, hts, hG, hA, hE, hnm⟩ := hEn
  have hown : s.vm.findClass "RulerWordModel" = some m.cls := hown
  have hl : lv_has ls 3 [(0, .ref mo), (1, .int a), (2, .int b)] := hl
  have hfr0 : ∀ b, b ∈ L → f b = f b := fun b hb  => rfl
  have hsb0 : ∀ b, b ∈ L → b ∈ L := fun b hb => hb
  refine lv_aload_n hx hb dX11_isRound_0 rfl (lv_at hl 0 rfl) ?_
  refine pl_get (v := .int 0) hx hb hts (fun w h => mT (inX11 w h)) hown hG.1 hP hm_mo hf_mo rfl 23 (by decide) (hts _ (mT wg_1359)) (fun _ h => h) rfl dX11_isRound_1 ?_
  refine lv_if_eq (tgt := 43) hx hb dX11_isRound_4 (by decide) (fun c1 => ?_) (fun c1 => absurd (by decide) c1)
  refine lv_iconst (v := 0) hx hb dX11_isRound_43 (by decide) ?_
  exact ret_i (ty := .boolean) hx hb hr hlocks (rfl) hP hD hS (Nat.le_of_ble_eq_true rfl) (Nat.le_of_ble_eq_true rfl) (⟨rfl, hfr0, hsb0⟩) dX11_isRound_44

set_option maxHeartbeats 4000000 in
set_option maxRecDepth 100000 in
theorem k_X11_canSearch (l : Launch) (g : GG) (L : List Nat) (f : HP) (sz : Nat) (mo ar1 ar7 ar10 ar11 ar24 ar26 ar27 ar28 ar29 ar30 ar31 ar32 ar33 ar34 ar35 ar41 ar42 ar43 ar44 ar49 ar52 ar54 : Nat) (hm_mo : mo ∈ L) (hf_mo : f mo = .inr (10, [.int 0, .ref ar1, .int 0, .int 0, .int 0, .int 0, .int 0, .ref ar7, .int 0, .int 0, .ref ar10, .ref ar11, .int 0, .int 0, .int 0, .int 0, .int 0, .int 0, .int 0, .int 0, .int 0, .long 0, .long 0, .int 0, .ref ar24, .int 0, .ref ar26, .ref ar27, .ref ar28, .ref ar29, .ref ar30, .ref ar31, .ref ar32, .ref ar33, .ref ar34, .ref ar35, .int 0, .int 0, .int 0, .int 0, .int 0, .ref ar41, .ref ar42, .ref ar43, .ref ar44, .long 0, .long 0, .int 0, .int 0, .ref ar49, .int 0, .int 0, .ref ar52, .int 0, .ref ar54, .int 0])) : MtI l g yX11_canSearch cX11_canSearch 1 (some .boolean) ({ frames := 0, cells := 0, slots := 0, locals := 0 }) [.ref mo] L f sz (fun r u => r = 0 ∧ (∀ b, b ∈ L → u.2 b = f b) ∧ (∀ b, b ∈ L → b ∈ u.1)) := by
  refine MtI.of (by decide +kernel) (Nat.le_of_ble_eq_true rfl) ?_
  intro p e s m below meth c A hEn hP hD hS ls hl
  obtain ⟨hx, hb, hr, hml, hown, hlocks, hts, hG, hA, hE, hnm⟩ := hEn
  have hown : s.vm.findClass "RulerWordModel" = some m.cls := hown
  have hl : lv_has ls 1 [(0, .ref mo)] := hl
  have hfr0 : ∀ b, b ∈ L → f b = f b := fun b hb  => rfl
  have hsb0 : ∀ b, b ∈ L → b ∈ L := fun b hb => hb
  refine lv_aload_n hx hb dX11_canSearch_0 rfl (lv_at hl 0 rfl) ?_
  refine pl_get (v := .int 0) hx hb hts (fun w h => mT (inX11 w h)) hown hG.1 hP hm_mo hf_mo rfl 23 (by decide) (hts _ (mT wg_1359)) (fun _ h => h) rfl dX11_canSearch_1 ?_
  refine lv_if_ne (tgt := 9) hx hb dX11_canSearch_4 (by decide) (fun c1 => absurd rfl c1) (fun c1 => ?_)
  refine lv_iconst (v := 0) hx hb dX11_canSearch_7 (by decide) ?_
  exact ret_i (ty := .boolean) hx hb hr hlocks (rfl) hP hD hS (Nat.le_of_ble_eq_true rfl) (Nat.le_of_ble_eq_true rfl) (⟨rfl, hfr0, hsb0⟩) dX11_canSearch_8

set_option maxHeartbeats 4000000 in
set_option maxRecDepth 100000 in
theorem k_X11_isIn (l : Launch) (g : GG) (L : List Nat) (f : HP) (sz : Nat)  (v : Int64) (a : Int64) (b : Int64)  : MtI l g yX11_isIn cX11_isIn 6 (some .boolean) ({ frames := 0, cells := 0, slots := 0, locals := 0 }) [.long v, .long a, .long b] L f sz (fun r u => r = isInV v a b ∧ (∀ b, b ∈ L → u.2 b = f b) ∧ (∀ b, b ∈ L → b ∈ u.1)) := by
  refine MtI.of (by decide +kernel) (Nat.le_of_ble_eq_true rfl) ?_
  intro p e s m below meth c A hEn hP hD hS ls hl
  obtain ⟨hx, hb, hr, hml, hown, hlocks, hts, hG, hA, hE, hnm⟩ := hEn
  have hown : s.vm.findClass "RulerWordModel" = some m.cls := hown
  have hl : lv_has ls 6 [(0, .long v), (2, .long a), (4, .long b)] := hl
  have hfr0 : ∀ b, b ∈ L → f b = f b := fun b hb  => rfl
  have hsb0 : ∀ b, b ∈ L → b ∈ L := fun b hb => hb
  refine lv_lload_n hx hb dX11_isIn_0 rfl (lv_at hl 0 rfl) ?_
  refine lv_lload_n hx hb dX11_isIn_1 rfl (lv_at hl 1 rfl) ?_
  refine W.lcmp hx hb dX11_isIn_2 ?_
  refine lv_topi (fun x1 ex1 => ?_)
  refine lv_if_lt (tgt := 17) hx hb dX11_isIn_3 (by decide) (fun c2 => ?_) (fun c2 => ?_)
  ·
    refine lv_iconst (v := 0) hx hb dX11_isIn_17 (by decide) ?_
    exact ret_i (ty := .boolean) hx hb hr hlocks (rfl) hP hD hS (Nat.le_of_ble_eq_true rfl) (Nat.le_of_ble_eq_true rfl) (⟨by simp [isInV, c2, ← ex1], hfr0, hsb0⟩) dX11_isIn_18
  ·
    refine lv_lload_n hx hb dX11_isIn_6 rfl (lv_at hl 0 rfl) ?_
    refine lv_lload hx hb dX11_isIn_7 (lv_at hl 2 rfl) ?_
    refine W.lcmp hx hb dX11_isIn_9 ?_
    refine lv_topi (fun x3 ex3 => ?_)
    refine lv_if_gt (tgt := 17) hx hb dX11_isIn_10 (by decide) (fun c4 => ?_) (fun c4 => ?_)
    ·
      refine lv_iconst (v := 0) hx hb dX11_isIn_17 (by decide) ?_
      exact ret_i (ty := .boolean) hx hb hr hlocks (rfl) hP hD hS (Nat.le_of_ble_eq_true rfl) (Nat.le_of_ble_eq_true rfl) (⟨by simp [isInV, c2, c4, ← ex1, ← ex3], hfr0, hsb0⟩) dX11_isIn_18
    ·
      refine lv_iconst (v := 1) hx hb dX11_isIn_13 (by decide) ?_
      refine lv_goto (tgt := 18) hx hb dX11_isIn_14 (by decide) ?_
      exact ret_i (ty := .boolean) hx hb hr hlocks (rfl) hP hD hS (Nat.le_of_ble_eq_true rfl) (Nat.le_of_ble_eq_true rfl) (⟨by simp [isInV, c2, c4, ← ex1, ← ex3], hfr0, hsb0⟩) dX11_isIn_18

set_option maxHeartbeats 4000000 in
set_option maxRecDepth 100000 in
theorem k_X11_refuse (l : Launch) (g : GG) (L : List Nat) (f : HP) (sz : Nat) (mo ar1 ar7 ar10 ar11 ar24 ar26 ar27 ar28 ar29 ar30 ar31 ar32 ar33 ar34 ar35 ar41 ar42 ar43 ar44 ar49 ar52 ar54 : Nat) (hm_mo : mo ∈ L) (hf_mo : f mo = .inr (10, [.int 0, .ref ar1, .int 0, .int 0, .int 0, .int 0, .int 0, .ref ar7, .int 0, .int 0, .ref ar10, .ref ar11, .int 0, .int 0, .int 0, .int 0, .int 0, .int 0, .int 0, .int 0, .int 0, .long 0, .long 0, .int 0, .ref ar24, .int 0, .ref ar26, .ref ar27, .ref ar28, .ref ar29, .ref ar30, .ref ar31, .ref ar32, .ref ar33, .ref ar34, .ref ar35, .int 0, .int 0, .int 0, .int 0, .int 0, .ref ar41, .ref ar42, .ref ar43, .ref ar44, .long 0, .long 0, .int 0, .int 0, .ref ar49, .int 0, .int 0, .ref ar52, .int 0, .ref ar54, .int 0])) (hm_ar49 : ar49 ∈ L) (hf_ar49 : f ar49 = .inl (g.2.1 0, 5, .inl (fun _ => 0))) : MtI l g yX11_refuse cX11_refuse 2 (some .int) ({ frames := 0, cells := 0, slots := 0, locals := 0 }) [.ref mo, .int 0] L f sz (fun r u => ∃ (r49 : Nat → Int32), u.2 ar49 = .inl (g.2.1 0, 5, .inl (r49)) ∧ r = (-1) ∧ (∀ b, b ∈ L → b ≠ ar49 → u.2 b = f b) ∧ (∀ b, b ∈ L → b ∈ u.1)) := by
  refine MtI.of (by decide +kernel) (Nat.le_of_ble_eq_true rfl) ?_
  intro p e s m below meth c A hEn hP hD hS ls hl
  obtain ⟨hx, hb, hr, hml, hown, hlocks, hts, hG, hA, hE, hnm⟩ := hEn
  have hown : s.vm.findClass "RulerWordModel" = some m.cls := hown
  have hl : lv_has ls 2 [(0, .ref mo), (1, .int 0)] := hl
  have hfr0 : ∀ b, b ∈ L → b ≠ ar49 → f b = f b := fun b hb z0 => rfl
  have hsb0 : ∀ b, b ∈ L → b ∈ L := fun b hb => hb
  refine lv_aload_n hx hb dX11_refuse_0 rfl (lv_at hl 0 rfl) ?_
  refine pl_get (v := .ref ar49) hx hb hts (fun w h => mT (inX11 w h)) hown hG.1 hP hm_mo hf_mo rfl 49 (by decide) (hts _ (mT wg_1385)) (fun _ h => h) rfl dX11_refuse_1 ?_
  refine lv_iload_n hx hb dX11_refuse_4 rfl (lv_at hl 1 rfl) ?_
  refine lv_dup2_11 hx hb dX11_refuse_5 rfl rfl ?_
  refine pl_iald hx hb hG.1 hP hm_ar49 0 hf_ar49 rfl (by unfold vp_in; decide) dX11_refuse_6 ?_
  refine lv_topi (fun x1 ex1 => ?_)
  obtain rfl : x1 = 0 := ex1.trans (rfl)
  refine lv_iconst (v := 1) hx hb dX11_refuse_7 (by decide) ?_
  refine lv_iadd hx hb dX11_refuse_8 ?_
  refine lv_topi (fun x2 ex2 => ?_)
  obtain rfl : x2 = 1 := ex2.trans (by decide)
  refine pl_iast hx hb hG.1 hP hD hS hm_ar49 0 hf_ar49 rfl (by unfold vp_in; decide) dX11_refuse_9 (fun H locs f3 hf5 ho4 hP hD hS => ?_)
  obtain ⟨r6, er6⟩ : ∃ r : Nat → Int32, r = upd (fun _ => 0) (0 : Int32).toNatClampNeg (1) := ⟨_, rfl⟩
  rw [← er6] at hf5
  have hfr7 : ∀ b, b ∈ L → b ≠ ar49 → f3 b = f b := fun b hb z0 => (ho4 b z0).trans (hfr0 b hb z0)
  have hf8 := (ho4 mo (kno hf_mo hf_ar49)).trans hf_mo
  refine lv_iconst (v := (-1)) hx hb dX11_refuse_10 (by decide) ?_
  exact ret_i (ty := .int) hx hb hr hlocks (rfl) hP hD hS (Nat.le_of_ble_eq_true rfl) (Nat.le_of_ble_eq_true rfl) (⟨r6, hf5, rfl, hfr7, hsb0⟩) dX11_refuse_11
end
section
set_option maxHeartbeats 4000000 in
set_option maxRecDepth 100000 in
theorem k_X10_fault (l : Launch) (g : GG) (L : List Nat) (f : HP) (sz : Nat) (x t dr co ot dp pn ch fr nw kp tr ac se tx rf tb pa : Nat) (w : Int32) (hm_x : x ∈ L) (hf_x : f x = .inr (9, [.ref t, .ref dr, .ref co, .ref ot, .ref dp, .ref pn, .ref ch, .ref fr, .ref nw, .ref kp, .ref tr, .ref ac, .ref se, .ref tx, .ref rf, .int 0, .int 0, .long 0])) (hm_t : t ∈ L) (hf_t : f t = .inr (8, [.ref tb, .int 0, .int 0, .int 0, .int 0])) (hm_dr : dr ∈ L) (hf_dr : f dr = .inr (2, [.int 0, .int 0, .int 0, .int 0, .int 0, .int 0, .int 0, .int 0])) (hm_dp : dp ∈ L) (hf_dp : f dp = .inr (5, [.ref pa, .int 0])) (hm_pa : pa ∈ L) (hf_pa : f pa = .inl (g.2.1 0, 100, .inl (fun _ => 0))) : MtI l g yX10_fault cX10_fault 2 (some .int) ({ frames := 5, cells := 0, slots := 0, locals := 109 }) [.ref x, .int w] L f sz (fun r _ => r = fltV w) := by
  refine MtI.of (by decide +kernel) (Nat.le_of_ble_eq_true rfl) ?_
  intro p e s m below meth c A hEn hP hD hS ls hl
  obtain ⟨hx, hb, hr, hml, hown, hlocks, hts, hG, hA, hE, hnm⟩ := hEn
  have hown : s.vm.findClass "RulerWord" = some m.cls := hown
  have hl : lv_has ls 2 [(0, .ref x), (1, .int w)] := hl
  refine lv_iload_n hx hb dX10_fault_0 rfl (lv_at hl 1 rfl) ?_
  by_cases c1 : w = 0
  ·
    subst c1
    refine lv_lookup (off := 27) (tgt := 28) hx hb dX10_fault_1 (by decide) (by decide) (by decide) ?_
    refine lv_aload_n hx hb dX10_fault_28 rfl (lv_at hl 0 rfl) ?_
    refine pl_get (v := .ref dr) hx hb hts (fun w h => mT (inX10 w h)) hown hG.1 hP hm_x hf_x rfl 1 (by decide) (hts _ (mT wg_476)) (fun _ h => h) rfl dX10_fault_29 ?_
    refine lv_aload_n hx hb dX10_fault_32 rfl (lv_at hl 0 rfl) ?_
    refine pl_get (v := .ref t) hx hb hts (fun w h => mT (inX10 w h)) hown hG.1 hP hm_x hf_x rfl 0 (by decide) (hts _ (mT wg_475)) (fun _ h => h) rfl dX10_fault_33 ?_
    refine call_i (run_VN (rm := { frames := 2, cells := 0, slots := 0, locals := 42 }) hx hb hml hown hts (k_X2_readFrom l g _ _ _ dr t tb hm_dr hf_dr hm_t hf_t) cV_X2_readFrom wn_550 ⟨Nat.le_of_ble_eq_true rfl, Nat.le_of_ble_eq_true rfl⟩ hG hE hA hP hD hS hm_dr hf_dr rfl rfl hl.1 (As := [.ref t]) (rest := []) rfl (Nat.le_of_ble_eq_true rfl) dX10_fault_36 ⟨Nat.le_of_ble_eq_true rfl, Nat.le_of_ble_eq_true rfl⟩) hA hD hS (fun r2 L3 f4 H locs hp5 hP hD hS => ?_)
    obtain ⟨hf6, hf7, er8, fr9, sb10⟩ := hp5
    have hf12 := (fr9 x hm_x (kne hf_x hf_dr (by decide)) (kne hf_x hf_t (by decide))).trans hf_x
    have hm11 := sb10 _ hm_x
    have hm13 := sb10 _ hm_t
    have hm14 := sb10 _ hm_dr
    have hf16 := (fr9 dp hm_dp (kne hf_dp hf_dr (by decide)) (kne hf_dp hf_t (by decide))).trans hf_dp
    have hm15 := sb10 _ hm_dp
    have hf18 := (fr9 pa hm_pa (kno hf_dr hf_pa).symm (kno hf_t hf_pa).symm).trans hf_pa
    have hm17 := sb10 _ hm_pa
    subst er8
    exact ret_i (ty := .int) hx hb hr hlocks (rfl) hP hD hS (Nat.le_of_ble_eq_true rfl) (Nat.le_of_ble_eq_true rfl) (by simp [fltV]) dX10_fault_39
  by_cases c19 : w = 1
  ·
    subst c19
    refine lv_lookup (off := 39) (tgt := 40) hx hb dX10_fault_1 (by decide) (by decide) (by decide) ?_
    refine lv_aload_n hx hb dX10_fault_40 rfl (lv_at hl 0 rfl) ?_
    refine pl_get (v := .ref dp) hx hb hts (fun w h => mT (inX10 w h)) hown hG.1 hP hm_x hf_x rfl 4 (by decide) (hts _ (mT wg_479)) (fun _ h => h) rfl dX10_fault_41 ?_
    refine lv_aload_n hx hb dX10_fault_44 rfl (lv_at hl 0 rfl) ?_
    refine pl_get (v := .ref t) hx hb hts (fun w h => mT (inX10 w h)) hown hG.1 hP hm_x hf_x rfl 0 (by decide) (hts _ (mT wg_475)) (fun _ h => h) rfl dX10_fault_45 ?_
    refine call_i (run_VN (rm := { frames := 4, cells := 0, slots := 0, locals := 87 }) hx hb hml hown hts (k_X5_readFrom l g _ _ _ dp t pa tb (fun _ => 0) hm_dp hf_dp hm_pa hf_pa hm_t hf_t) cV_X5_readFrom wn_676 ⟨Nat.le_of_ble_eq_true rfl, Nat.le_of_ble_eq_true rfl⟩ hG hE hA hP hD hS hm_dp hf_dp rfl rfl hl.1 (As := [.ref t]) (rest := []) rfl (Nat.le_of_ble_eq_true rfl) dX10_fault_48 ⟨Nat.le_of_ble_eq_true rfl, Nat.le_of_ble_eq_true rfl⟩) hA hD hS (fun r20 L21 f22 H locs hp23 hP hD hS => ?_)
    obtain ⟨r24, hf25, hf26, hf27, er28, fr29, sb30⟩ := hp23
    have hf32 := (fr29 x hm_x (kne hf_x hf_dp (by decide)) (kno hf_x hf_pa) (kne hf_x hf_t (by decide))).trans hf_x
    have hm31 := sb30 _ hm_x
    have hm33 := sb30 _ hm_t
    have hf35 := (fr29 dr hm_dr (kne hf_dr hf_dp (by decide)) (kno hf_dr hf_pa) (kne hf_dr hf_t (by decide))).trans hf_dr
    have hm34 := sb30 _ hm_dr
    have hm36 := sb30 _ hm_dp
    have hm37 := sb30 _ hm_pa
    subst er28
    exact ret_i (ty := .int) hx hb hr hlocks (rfl) hP hD hS (Nat.le_of_ble_eq_true rfl) (Nat.le_of_ble_eq_true rfl) (by simp [fltV]) dX10_fault_51
  refine lv_lookup (off := 51) (tgt := 52) hx hb dX10_fault_1 (by decide) (by simp [Op.lookupswitch.offset, ne_ti2 (k := 0) c1 (by decide), ne_ti2 (k := 1) c19 (by decide)]) (by decide) ?_
  refine lv_bipush (v := (-2)) hx hb dX10_fault_52 (by decide) ?_
  exact ret_i (ty := .int) hx hb hr hlocks (rfl) hP hD hS (Nat.le_of_ble_eq_true rfl) (Nat.le_of_ble_eq_true rfl) (by simp [fltV, c1, c19]) dX10_fault_54

set_option maxHeartbeats 4000000 in
set_option maxRecDepth 100000 in
theorem k_X10_council (l : Launch) (g : GG) (L : List Nat) (f : HP) (sz : Nat) (x t dr co ot dp pn ch fr nw kp tr ac se tx rf tb : Nat) (sd : Int64) (hm_x : x ∈ L) (hf_x : f x = .inr (9, [.ref t, .ref dr, .ref co, .ref ot, .ref dp, .ref pn, .ref ch, .ref fr, .ref nw, .ref kp, .ref tr, .ref ac, .ref se, .ref tx, .ref rf, .int 0, .int 0, .long 0])) (hm_t : t ∈ L) (hf_t : f t = .inr (8, [.ref tb, .int 0, .int 0, .int 0, .int 0])) (hm_dr : dr ∈ L) (hf_dr : f dr = .inr (2, [.int 0, .int 0, .int 0, .int 0, .int 0, .int 0, .int 0, .int 0])) : MtI l g yX10_council cX10_council 3 (some .int) ({ frames := 3, cells := 0, slots := 0, locals := 64 }) [.ref x, .long sd] L f sz (fun r _ => r = (-1)) := by
  refine MtI.of (by decide +kernel) (Nat.le_of_ble_eq_true rfl) ?_
  intro p e s m below meth c A hEn hP hD hS ls hl
  obtain ⟨hx, hb, hr, hml, hown, hlocks, hts, hG, hA, hE, hnm⟩ := hEn
  have hown : s.vm.findClass "RulerWord" = some m.cls := hown
  have hl : lv_has ls 3 [(0, .ref x), (1, .long sd)] := hl
  refine lv_aload_n hx hb dX10_council_0 rfl (lv_at hl 0 rfl) ?_
  refine pl_get (v := .ref dr) hx hb hts (fun w h => mT (inX10 w h)) hown hG.1 hP hm_x hf_x rfl 1 (by decide) (hts _ (mT wg_476)) (fun _ h => h) rfl dX10_council_1 ?_
  refine lv_aload_n hx hb dX10_council_4 rfl (lv_at hl 0 rfl) ?_
  refine pl_get (v := .ref t) hx hb hts (fun w h => mT (inX10 w h)) hown hG.1 hP hm_x hf_x rfl 0 (by decide) (hts _ (mT wg_475)) (fun _ h => h) rfl dX10_council_5 ?_
  refine call_i (run_VN (rm := { frames := 2, cells := 0, slots := 0, locals := 42 }) hx hb hml hown hts (k_X2_readFrom l g _ _ _ dr t tb hm_dr hf_dr hm_t hf_t) cV_X2_readFrom wn_550 ⟨Nat.le_of_ble_eq_true rfl, Nat.le_of_ble_eq_true rfl⟩ hG hE hA hP hD hS hm_dr hf_dr rfl rfl hl.1 (As := [.ref t]) (rest := []) rfl (Nat.le_of_ble_eq_true rfl) dX10_council_8 ⟨Nat.le_of_ble_eq_true rfl, Nat.le_of_ble_eq_true rfl⟩) hA hD hS (fun r1 L2 f3 H locs hp4 hP hD hS => ?_)
  obtain ⟨hf5, hf6, er7, fr8, sb9⟩ := hp4
  have hf11 := (fr8 x hm_x (kne hf_x hf_dr (by decide)) (kne hf_x hf_t (by decide))).trans hf_x
  have hm10 := sb9 _ hm_x
  have hm12 := sb9 _ hm_t
  have hm13 := sb9 _ hm_dr
  subst er7
  refine lv_iconst (v := (-1)) hx hb dX10_council_11 (by decide) ?_
  refine lv_icmp_eq (tgt := 17) hx hb dX10_council_12 (by decide) (fun c14 => absurd c14 (by decide)) (fun c14 => ?_)
  refine lv_iconst (v := (-1)) hx hb dX10_council_15 (by decide) ?_
  exact ret_i (ty := .int) hx hb hr hlocks (rfl) hP hD hS (Nat.le_of_ble_eq_true rfl) (Nat.le_of_ble_eq_true rfl) (rfl) dX10_council_16

set_option maxHeartbeats 4000000 in
set_option maxRecDepth 100000 in
theorem k_X10_plan (l : Launch) (g : GG) (L : List Nat) (f : HP) (sz : Nat) (x t dr co ot dp pn ch fr nw kp tr ac se tx rf tb pa : Nat) (hm_x : x ∈ L) (hf_x : f x = .inr (9, [.ref t, .ref dr, .ref co, .ref ot, .ref dp, .ref pn, .ref ch, .ref fr, .ref nw, .ref kp, .ref tr, .ref ac, .ref se, .ref tx, .ref rf, .int 0, .int 0, .long 0])) (hm_t : t ∈ L) (hf_t : f t = .inr (8, [.ref tb, .int 0, .int 0, .int 0, .int 0])) (hm_dp : dp ∈ L) (hf_dp : f dp = .inr (5, [.ref pa, .int 0])) (hm_pa : pa ∈ L) (hf_pa : f pa = .inl (g.2.1 0, 100, .inl (fun _ => 0))) : MtI l g yX10_plan cX10_plan 1 (some .int) ({ frames := 5, cells := 0, slots := 0, locals := 109 }) [.ref x] L f sz (fun r _ => r = (-1)) := by
  refine MtI.of (by decide +kernel) (Nat.le_of_ble_eq_true rfl) ?_
  intro p e s m below meth c A hEn hP hD hS ls hl
  obtain ⟨hx, hb, hr, hml, hown, hlocks, hts, hG, hA, hE, hnm⟩ := hEn
  have hown : s.vm.findClass "RulerWord" = some m.cls := hown
  have hl : lv_has ls 1 [(0, .ref x)] := hl
  refine lv_aload_n hx hb dX10_plan_0 rfl (lv_at hl 0 rfl) ?_
  refine pl_get (v := .ref dp) hx hb hts (fun w h => mT (inX10 w h)) hown hG.1 hP hm_x hf_x rfl 4 (by decide) (hts _ (mT wg_479)) (fun _ h => h) rfl dX10_plan_1 ?_
  refine lv_aload_n hx hb dX10_plan_4 rfl (lv_at hl 0 rfl) ?_
  refine pl_get (v := .ref t) hx hb hts (fun w h => mT (inX10 w h)) hown hG.1 hP hm_x hf_x rfl 0 (by decide) (hts _ (mT wg_475)) (fun _ h => h) rfl dX10_plan_5 ?_
  refine call_i (run_VN (rm := { frames := 4, cells := 0, slots := 0, locals := 87 }) hx hb hml hown hts (k_X5_readFrom l g _ _ _ dp t pa tb (fun _ => 0) hm_dp hf_dp hm_pa hf_pa hm_t hf_t) cV_X5_readFrom wn_676 ⟨Nat.le_of_ble_eq_true rfl, Nat.le_of_ble_eq_true rfl⟩ hG hE hA hP hD hS hm_dp hf_dp rfl rfl hl.1 (As := [.ref t]) (rest := []) rfl (Nat.le_of_ble_eq_true rfl) dX10_plan_8 ⟨Nat.le_of_ble_eq_true rfl, Nat.le_of_ble_eq_true rfl⟩) hA hD hS (fun r1 L2 f3 H locs hp4 hP hD hS => ?_)
  obtain ⟨r5, hf6, hf7, hf8, er9, fr10, sb11⟩ := hp4
  have hf13 := (fr10 x hm_x (kne hf_x hf_dp (by decide)) (kno hf_x hf_pa) (kne hf_x hf_t (by decide))).trans hf_x
  have hm12 := sb11 _ hm_x
  have hm14 := sb11 _ hm_t
  have hm15 := sb11 _ hm_dp
  have hm16 := sb11 _ hm_pa
  subst er9
  refine lv_iconst (v := (-1)) hx hb dX10_plan_11 (by decide) ?_
  refine lv_icmp_eq (tgt := 17) hx hb dX10_plan_12 (by decide) (fun c17 => absurd c17 (by decide)) (fun c17 => ?_)
  refine lv_iconst (v := (-1)) hx hb dX10_plan_15 (by decide) ?_
  exact ret_i (ty := .int) hx hb hr hlocks (rfl) hP hD hS (Nat.le_of_ble_eq_true rfl) (Nat.le_of_ble_eq_true rfl) (rfl) dX10_plan_16
end
section
set_option maxHeartbeats 4000000 in
set_option maxRecDepth 100000 in
theorem k_X11_thrown (l : Launch) (g : GG) (L : List Nat) (f : HP) (sz : Nat) (mo ar1 ar7 ar10 ar11 ar24 ar26 ar27 ar28 ar29 ar30 ar31 ar32 ar33 ar34 ar35 ar41 ar42 ar43 ar44 ar49 ar52 ar54 : Nat) (hm_mo : mo ∈ L) (hf_mo : f mo = .inr (10, [.int 0, .ref ar1, .int 0, .int 0, .int 0, .int 0, .int 0, .ref ar7, .int 0, .int 0, .ref ar10, .ref ar11, .int 0, .int 0, .int 0, .int 0, .int 0, .int 0, .int 0, .int 0, .int 0, .long 0, .long 0, .int 0, .ref ar24, .int 0, .ref ar26, .ref ar27, .ref ar28, .ref ar29, .ref ar30, .ref ar31, .ref ar32, .ref ar33, .ref ar34, .ref ar35, .int 0, .int 0, .int 0, .int 0, .int 0, .ref ar41, .ref ar42, .ref ar43, .ref ar44, .long 0, .long 0, .int 0, .int 0, .ref ar49, .int 0, .int 0, .ref ar52, .int 0, .ref ar54, .int 0])) : MtI l g yX11_thrown cX11_thrown 1 (some .int) ({ frames := 0, cells := 0, slots := 0, locals := 0 }) [.ref mo] L f sz (fun r _ => r = 0) := by
  refine MtI.of (by decide +kernel) (Nat.le_of_ble_eq_true rfl) ?_
  intro p e s m below meth c A hEn hP hD hS ls hl
  obtain ⟨hx, hb, hr, hml, hown, hlocks, hts, hG, hA, hE, hnm⟩ := hEn
  have hown : s.vm.findClass "RulerWordModel" = some m.cls := hown
  have hl : lv_has ls 1 [(0, .ref mo)] := hl
  refine lv_aload_n hx hb dX11_thrown_0 rfl (lv_at hl 0 rfl) ?_
  refine pl_get (v := .int 0) hx hb hts (fun w h => mT (inX11 w h)) hown hG.1 hP hm_mo hf_mo rfl 0 (by decide) (hts _ (mT wg_1336)) (fun _ h => h) rfl dX11_thrown_1 ?_
  exact ret_i (ty := .int) hx hb hr hlocks (rfl) hP hD hS (Nat.le_of_ble_eq_true rfl) (Nat.le_of_ble_eq_true rfl) (rfl) dX11_thrown_4

set_option maxHeartbeats 4000000 in
set_option maxRecDepth 100000 in
theorem k_X11_end (l : Launch) (g : GG) (L : List Nat) (f : HP) (sz : Nat) (mo ar1 ar7 ar10 ar11 ar24 ar26 ar27 ar28 ar29 ar30 ar31 ar32 ar33 ar34 ar35 ar41 ar42 ar43 ar44 ar49 ar52 ar54 : Nat) (n : Int32) (hm_mo : mo ∈ L) (hf_mo : f mo = .inr (10, [.int 0, .ref ar1, .int 0, .int 0, .int 0, .int 0, .int 0, .ref ar7, .int 0, .int 0, .ref ar10, .ref ar11, .int 0, .int 0, .int 0, .int 0, .int 0, .int 0, .int 0, .int 0, .int 0, .long 0, .long 0, .int 0, .ref ar24, .int 0, .ref ar26, .ref ar27, .ref ar28, .ref ar29, .ref ar30, .ref ar31, .ref ar32, .ref ar33, .ref ar34, .ref ar35, .int 0, .int 0, .int 0, .int 0, .int 0, .ref ar41, .ref ar42, .ref ar43, .ref ar44, .long 0, .long 0, .int 0, .int 0, .ref ar49, .int 0, .int 0, .ref ar52, .int 0, .ref ar54, .int 0])) : MtI l g yX11_end cX11_end 2 (some .boolean) ({ frames := 0, cells := 0, slots := 0, locals := 0 }) [.ref mo, .int n] L f sz (fun r _ => r = endV n) := by
  refine MtI.of (by decide +kernel) (Nat.le_of_ble_eq_true rfl) ?_
  intro p e s m below meth c A hEn hP hD hS ls hl
  obtain ⟨hx, hb, hr, hml, hown, hlocks, hts, hG, hA, hE, hnm⟩ := hEn
  have hown : s.vm.findClass "RulerWordModel" = some m.cls := hown
  have hl : lv_has ls 2 [(0, .ref mo), (1, .int n)] := hl
  refine lv_aload_n hx hb dX11_end_0 rfl (lv_at hl 0 rfl) ?_
  refine lv_iconst (v := 0) hx hb dX11_end_1 (by decide) ?_
  refine pl_put (ty := .int) (v := .int 0) (fs' := [.int 0, .ref ar1, .int 0, .int 0, .int 0, .int 0, .int 0, .ref ar7, .int 0, .int 0, .ref ar10, .ref ar11, .int 0, .int 0, .int 0, .int 0, .int 0, .int 0, .int 0, .int 0, .int 0, .long 0, .long 0, .int 0, .ref ar24, .int 0, .ref ar26, .ref ar27, .ref ar28, .ref ar29, .ref ar30, .ref ar31, .ref ar32, .ref ar33, .ref ar34, .ref ar35, .int 0, .int 0, .int 0, .int 0, .int 0, .ref ar41, .ref ar42, .ref ar43, .ref ar44, .long 0, .long 0, .int 0, .int 0, .ref ar49, .int 0, .int 0, .ref ar52, .int 0, .ref ar54, .int 0]) hx hb hts (fun w h => mT (inX11 w h)) tyX11 tyX11_ok nmX11 hown hG.1 hP hD hS hm_mo hf_mo rfl 0 (by decide) (hts _ (mT wg_1336)) (fun _ h => h) rfl (by decide +kernel) (rfl) (rfl) (Nat.le_of_ble_eq_true rfl) rfl dX11_end_2 (fun H locs f1 hf3 ho2 hP hD hS => ?_)
  refine lv_iload_n hx hb dX11_end_5 rfl (lv_at hl 1 rfl) ?_
  refine lv_if_lt (tgt := 17) hx hb dX11_end_6 (by decide) (fun c4 => ?_) (fun c4 => ?_)
  ·
    refine lv_iconst (v := 0) hx hb dX11_end_17 (by decide) ?_
    exact ret_i (ty := .boolean) hx hb hr hlocks (rfl) hP hD hS (Nat.le_of_ble_eq_true rfl) (Nat.le_of_ble_eq_true rfl) (by simp [endV, c4]) dX11_end_18
  ·
    refine lv_iload_n hx hb dX11_end_9 rfl (lv_at hl 1 rfl) ?_
    refine lv_aload_n hx hb dX11_end_10 rfl (lv_at hl 0 rfl) ?_
    refine pl_get (v := .int 0) hx hb hts (fun w h => mT (inX11 w h)) hown hG.1 hP hm_mo hf3 rfl 2 (by decide) (hts _ (mT wg_1338)) (fun _ h => h) rfl dX11_end_11 ?_
    refine lv_icmp_le (tgt := 19) hx hb dX11_end_14 (by decide) (fun c5 => ?_) (fun c5 => ?_)
    ·
      refine lv_aload_n hx hb dX11_end_19 rfl (lv_at hl 0 rfl) ?_
      refine lv_iload_n hx hb dX11_end_20 rfl (lv_at hl 1 rfl) ?_
      refine pl_put (ty := .int) (v := .int n) (fs' := [.int 0, .ref ar1, .int n, .int 0, .int 0, .int 0, .int 0, .ref ar7, .int 0, .int 0, .ref ar10, .ref ar11, .int 0, .int 0, .int 0, .int 0, .int 0, .int 0, .int 0, .int 0, .int 0, .long 0, .long 0, .int 0, .ref ar24, .int 0, .ref ar26, .ref ar27, .ref ar28, .ref ar29, .ref ar30, .ref ar31, .ref ar32, .ref ar33, .ref ar34, .ref ar35, .int 0, .int 0, .int 0, .int 0, .int 0, .ref ar41, .ref ar42, .ref ar43, .ref ar44, .long 0, .long 0, .int 0, .int 0, .ref ar49, .int 0, .int 0, .ref ar52, .int 0, .ref ar54, .int 0]) hx hb hts (fun w h => mT (inX11 w h)) tyX11 tyX11_ok nmX11 hown hG.1 hP hD hS hm_mo hf3 rfl 2 (by decide) (hts _ (mT wg_1338)) (fun _ h => h) rfl (by decide +kernel) (rfl) (rfl) (Nat.le_of_ble_eq_true rfl) rfl dX11_end_21 (fun H locs f6 hf8 ho7 hP hD hS => ?_)
      refine lv_iconst (v := 1) hx hb dX11_end_24 (by decide) ?_
      exact ret_i (ty := .boolean) hx hb hr hlocks (rfl) hP hD hS (Nat.le_of_ble_eq_true rfl) (Nat.le_of_ble_eq_true rfl) (by simp [endV, c4, c5]) dX11_end_25
    ·
      refine lv_iconst (v := 0) hx hb dX11_end_17 (by decide) ?_
      exact ret_i (ty := .boolean) hx hb hr hlocks (rfl) hP hD hS (Nat.le_of_ble_eq_true rfl) (Nat.le_of_ble_eq_true rfl) (by simp [endV, c4, c5]) dX11_end_18

set_option maxHeartbeats 4000000 in
set_option maxRecDepth 100000 in
theorem k_X11_fault (l : Launch) (g : GG) (L : List Nat) (f : HP) (sz : Nat) (mo ar1 ar7 ar10 ar11 ar24 ar26 ar27 ar28 ar29 ar30 ar31 ar32 ar33 ar34 ar35 ar41 ar42 ar43 ar44 ar49 ar52 ar54 : Nat) (w : Int32) (hm_mo : mo ∈ L) (hf_mo : f mo = .inr (10, [.int 0, .ref ar1, .int 0, .int 0, .int 0, .int 0, .int 0, .ref ar7, .int 0, .int 0, .ref ar10, .ref ar11, .int 0, .int 0, .int 0, .int 0, .int 0, .int 0, .int 0, .int 0, .int 0, .long 0, .long 0, .int 0, .ref ar24, .int 0, .ref ar26, .ref ar27, .ref ar28, .ref ar29, .ref ar30, .ref ar31, .ref ar32, .ref ar33, .ref ar34, .ref ar35, .int 0, .int 0, .int 0, .int 0, .int 0, .ref ar41, .ref ar42, .ref ar43, .ref ar44, .long 0, .long 0, .int 0, .int 0, .ref ar49, .int 0, .int 0, .ref ar52, .int 0, .ref ar54, .int 0])) (hm_ar7 : ar7 ∈ L) (hf_ar7 : f ar7 = .inl (g.2.1 0, 6, .inl (fun _ => 0))) (hm_ar11 : ar11 ∈ L) (hf_ar11 : f ar11 = .inl (g.2.1 0, 100, .inl (fun _ => 0))) : MtI l g yX11_fault cX11_fault 2 (some .int) ({ frames := 5, cells := 0, slots := 0, locals := 105 }) [.ref mo, .int w] L f sz (fun r _ => r = fltV w) := by
  refine MtI.of (by decide +kernel) (Nat.le_of_ble_eq_true rfl) ?_
  intro p e s m below meth c A hEn hP hD hS ls hl
  obtain ⟨hx, hb, hr, hml, hown, hlocks, hts, hG, hA, hE, hnm⟩ := hEn
  have hown : s.vm.findClass "RulerWordModel" = some m.cls := hown
  have hl : lv_has ls 2 [(0, .ref mo), (1, .int w)] := hl
  refine lv_aload_n hx hb dX11_fault_0 rfl (lv_at hl 0 rfl) ?_
  refine lv_iconst (v := 0) hx hb dX11_fault_1 (by decide) ?_
  refine pl_put (ty := .int) (v := .int 0) (fs' := [.int 0, .ref ar1, .int 0, .int 0, .int 0, .int 0, .int 0, .ref ar7, .int 0, .int 0, .ref ar10, .ref ar11, .int 0, .int 0, .int 0, .int 0, .int 0, .int 0, .int 0, .int 0, .int 0, .long 0, .long 0, .int 0, .ref ar24, .int 0, .ref ar26, .ref ar27, .ref ar28, .ref ar29, .ref ar30, .ref ar31, .ref ar32, .ref ar33, .ref ar34, .ref ar35, .int 0, .int 0, .int 0, .int 0, .int 0, .ref ar41, .ref ar42, .ref ar43, .ref ar44, .long 0, .long 0, .int 0, .int 0, .ref ar49, .int 0, .int 0, .ref ar52, .int 0, .ref ar54, .int 0]) hx hb hts (fun w h => mT (inX11 w h)) tyX11 tyX11_ok nmX11 hown hG.1 hP hD hS hm_mo hf_mo rfl 0 (by decide) (hts _ (mT wg_1336)) (fun _ h => h) rfl (by decide +kernel) (rfl) (rfl) (Nat.le_of_ble_eq_true rfl) rfl dX11_fault_2 (fun H locs f1 hf3 ho2 hP hD hS => ?_)
  have hf4 := (ho2 ar7 (kno hf_mo hf_ar7).symm).trans hf_ar7
  have hf5 := (ho2 ar11 (kno hf_mo hf_ar11).symm).trans hf_ar11
  refine lv_iload_n hx hb dX11_fault_5 rfl (lv_at hl 1 rfl) ?_
  refine lv_if_ne (tgt := 16) hx hb dX11_fault_6 (by decide) (fun c6 => ?_) (fun c6 => ?_)
  ·
    refine lv_iload_n hx hb dX11_fault_16 rfl (lv_at hl 1 rfl) ?_
    refine lv_iconst (v := 1) hx hb dX11_fault_17 (by decide) ?_
    refine lv_icmp_ne (tgt := 28) hx hb dX11_fault_18 (by decide) (fun c7 => ?_) (fun c7 => ?_)
    ·
      refine lv_bipush (v := (-2)) hx hb dX11_fault_28 (by decide) ?_
      exact ret_i (ty := .int) hx hb hr hlocks (rfl) hP hD hS (Nat.le_of_ble_eq_true rfl) (Nat.le_of_ble_eq_true rfl) (by simp [fltV, c6, c7]) dX11_fault_30
    ·
      refine lv_aload_n hx hb dX11_fault_21 rfl (lv_at hl 0 rfl) ?_
      refine call_i (run_V (rm := { frames := 4, cells := 0, slots := 0, locals := 85 }) hx hb hml hown hts (k_X11_readsPlan l g _ _ _ mo ar1 ar7 ar10 ar11 ar24 ar26 ar27 ar28 ar29 ar30 ar31 ar32 ar33 ar34 ar35 ar41 ar42 ar43 ar44 ar49 ar52 ar54 hm_mo hf3 hm_ar11 hf5) cV_X11_readsPlan wg_1596 ⟨Nat.le_of_ble_eq_true rfl, Nat.le_of_ble_eq_true rfl⟩ hG hE hA hP hD hS hm_mo hf3 rfl rfl hl.1 (As := []) (rest := []) rfl (Nat.le_of_ble_eq_true rfl) dX11_fault_22 ⟨Nat.le_of_ble_eq_true rfl, Nat.le_of_ble_eq_true rfl⟩) hA hD hS (fun r8 L9 f10 H locs hp11 hP hD hS => ?_)
      obtain ⟨r12, hf13, hf14, er15, fr16, sb17⟩ := hp11
      have hm18 := sb17 _ hm_mo
      have hf20 := (fr16 ar7 hm_ar7 (kno hf3 hf4).symm (knn hf4 hf5 (by decide))).trans hf4
      have hm19 := sb17 _ hm_ar7
      have hm21 := sb17 _ hm_ar11
      subst er15
      refine lv_goto (tgt := 30) hx hb dX11_fault_25 (by decide) ?_
      exact ret_i (ty := .int) hx hb hr hlocks (rfl) hP hD hS (Nat.le_of_ble_eq_true rfl) (Nat.le_of_ble_eq_true rfl) (by simp [fltV, c6, c7]) dX11_fault_30
  ·
    refine lv_aload_n hx hb dX11_fault_9 rfl (lv_at hl 0 rfl) ?_
    refine call_i (run_V (rm := { frames := 3, cells := 0, slots := 0, locals := 63 }) hx hb hml hown hts (k_X11_readsCouncil l g _ _ _ mo ar1 ar7 ar10 ar11 ar24 ar26 ar27 ar28 ar29 ar30 ar31 ar32 ar33 ar34 ar35 ar41 ar42 ar43 ar44 ar49 ar52 ar54 hm_mo hf3 hm_ar7 hf4) cV_X11_readsCouncil wg_1529 ⟨Nat.le_of_ble_eq_true rfl, Nat.le_of_ble_eq_true rfl⟩ hG hE hA hP hD hS hm_mo hf3 rfl rfl hl.1 (As := []) (rest := []) rfl (Nat.le_of_ble_eq_true rfl) dX11_fault_10 ⟨Nat.le_of_ble_eq_true rfl, Nat.le_of_ble_eq_true rfl⟩) hA hD hS (fun r22 L23 f24 H locs hp25 hP hD hS => ?_)
    obtain ⟨r26, hf27, hf28, er29, fr30, sb31⟩ := hp25
    have hm32 := sb31 _ hm_mo
    have hm33 := sb31 _ hm_ar7
    have hf35 := (fr30 ar11 hm_ar11 (kno hf3 hf5).symm (knn hf5 hf4 (by decide))).trans hf5
    have hm34 := sb31 _ hm_ar11
    subst er29
    refine lv_goto (tgt := 30) hx hb dX11_fault_13 (by decide) ?_
    exact ret_i (ty := .int) hx hb hr hlocks (rfl) hP hD hS (Nat.le_of_ble_eq_true rfl) (Nat.le_of_ble_eq_true rfl) (by simp [fltV, c6]) dX11_fault_30

set_option maxHeartbeats 4000000 in
set_option maxRecDepth 100000 in
theorem k_X11_council (l : Launch) (g : GG) (L : List Nat) (f : HP) (sz : Nat) (mo ar1 ar7 ar10 ar11 ar24 ar26 ar27 ar28 ar29 ar30 ar31 ar32 ar33 ar34 ar35 ar41 ar42 ar43 ar44 ar49 ar52 ar54 : Nat) (sd : Int64) (hm_mo : mo ∈ L) (hf_mo : f mo = .inr (10, [.int 0, .ref ar1, .int 0, .int 0, .int 0, .int 0, .int 0, .ref ar7, .int 0, .int 0, .ref ar10, .ref ar11, .int 0, .int 0, .int 0, .int 0, .int 0, .int 0, .int 0, .int 0, .int 0, .long 0, .long 0, .int 0, .ref ar24, .int 0, .ref ar26, .ref ar27, .ref ar28, .ref ar29, .ref ar30, .ref ar31, .ref ar32, .ref ar33, .ref ar34, .ref ar35, .int 0, .int 0, .int 0, .int 0, .int 0, .ref ar41, .ref ar42, .ref ar43, .ref ar44, .long 0, .long 0, .int 0, .int 0, .ref ar49, .int 0, .int 0, .ref ar52, .int 0, .ref ar54, .int 0])) (hm_ar7 : ar7 ∈ L) (hf_ar7 : f ar7 = .inl (g.2.1 0, 6, .inl (fun _ => 0))) : MtI l g yX11_council cX11_council 3 (some .int) ({ frames := 4, cells := 0, slots := 0, locals := 84 }) [.ref mo, .long sd] L f sz (fun r _ => r = (-1)) := by
  refine MtI.of (by decide +kernel) (Nat.le_of_ble_eq_true rfl) ?_
  intro p e s m below meth c A hEn hP hD hS ls hl
  obtain ⟨hx, hb, hr, hml, hown, hlocks, hts, hG, hA, hE, hnm⟩ := hEn
  have hown : s.vm.findClass "RulerWordModel" = some m.cls := hown
  have hl : lv_has ls 3 [(0, .ref mo), (1, .long sd)] := hl
  refine lv_aload_n hx hb dX11_council_0 rfl (lv_at hl 0 rfl) ?_
  refine lv_iconst (v := 0) hx hb dX11_council_1 (by decide) ?_
  refine pl_put (ty := .int) (v := .int 0) (fs' := [.int 0, .ref ar1, .int 0, .int 0, .int 0, .int 0, .int 0, .ref ar7, .int 0, .int 0, .ref ar10, .ref ar11, .int 0, .int 0, .int 0, .int 0, .int 0, .int 0, .int 0, .int 0, .int 0, .long 0, .long 0, .int 0, .ref ar24, .int 0, .ref ar26, .ref ar27, .ref ar28, .ref ar29, .ref ar30, .ref ar31, .ref ar32, .ref ar33, .ref ar34, .ref ar35, .int 0, .int 0, .int 0, .int 0, .int 0, .ref ar41, .ref ar42, .ref ar43, .ref ar44, .long 0, .long 0, .int 0, .int 0, .ref ar49, .int 0, .int 0, .ref ar52, .int 0, .ref ar54, .int 0]) hx hb hts (fun w h => mT (inX11 w h)) tyX11 tyX11_ok nmX11 hown hG.1 hP hD hS hm_mo hf_mo rfl 0 (by decide) (hts _ (mT wg_1336)) (fun _ h => h) rfl (by decide +kernel) (rfl) (rfl) (Nat.le_of_ble_eq_true rfl) rfl dX11_council_2 (fun H locs f1 hf3 ho2 hP hD hS => ?_)
  have hf4 := (ho2 ar7 (kno hf_mo hf_ar7).symm).trans hf_ar7
  refine lv_aload_n hx hb dX11_council_5 rfl (lv_at hl 0 rfl) ?_
  refine call_i (run_V (rm := { frames := 3, cells := 0, slots := 0, locals := 63 }) hx hb hml hown hts (k_X11_readsCouncil l g _ _ _ mo ar1 ar7 ar10 ar11 ar24 ar26 ar27 ar28 ar29 ar30 ar31 ar32 ar33 ar34 ar35 ar41 ar42 ar43 ar44 ar49 ar52 ar54 hm_mo hf3 hm_ar7 hf4) cV_X11_readsCouncil wg_1529 ⟨Nat.le_of_ble_eq_true rfl, Nat.le_of_ble_eq_true rfl⟩ hG hE hA hP hD hS hm_mo hf3 rfl rfl hl.1 (As := []) (rest := []) rfl (Nat.le_of_ble_eq_true rfl) dX11_council_6 ⟨Nat.le_of_ble_eq_true rfl, Nat.le_of_ble_eq_true rfl⟩) hA hD hS (fun r5 L6 f7 H locs hp8 hP hD hS => ?_)
  obtain ⟨r9, hf10, hf11, er12, fr13, sb14⟩ := hp8
  have hm15 := sb14 _ hm_mo
  have hm16 := sb14 _ hm_ar7
  subst er12
  refine lv_iconst (v := (-1)) hx hb dX11_council_9 (by decide) ?_
  refine lv_icmp_eq (tgt := 15) hx hb dX11_council_10 (by decide) (fun c17 => absurd c17 (by decide)) (fun c17 => ?_)
  refine lv_iconst (v := (-1)) hx hb dX11_council_13 (by decide) ?_
  exact ret_i (ty := .int) hx hb hr hlocks (rfl) hP hD hS (Nat.le_of_ble_eq_true rfl) (Nat.le_of_ble_eq_true rfl) (rfl) dX11_council_14

set_option maxHeartbeats 4000000 in
set_option maxRecDepth 100000 in
theorem k_X11_plan (l : Launch) (g : GG) (L : List Nat) (f : HP) (sz : Nat) (mo ar1 ar7 ar10 ar11 ar24 ar26 ar27 ar28 ar29 ar30 ar31 ar32 ar33 ar34 ar35 ar41 ar42 ar43 ar44 ar49 ar52 ar54 : Nat) (hm_mo : mo ∈ L) (hf_mo : f mo = .inr (10, [.int 0, .ref ar1, .int 0, .int 0, .int 0, .int 0, .int 0, .ref ar7, .int 0, .int 0, .ref ar10, .ref ar11, .int 0, .int 0, .int 0, .int 0, .int 0, .int 0, .int 0, .int 0, .int 0, .long 0, .long 0, .int 0, .ref ar24, .int 0, .ref ar26, .ref ar27, .ref ar28, .ref ar29, .ref ar30, .ref ar31, .ref ar32, .ref ar33, .ref ar34, .ref ar35, .int 0, .int 0, .int 0, .int 0, .int 0, .ref ar41, .ref ar42, .ref ar43, .ref ar44, .long 0, .long 0, .int 0, .int 0, .ref ar49, .int 0, .int 0, .ref ar52, .int 0, .ref ar54, .int 0])) (hm_ar11 : ar11 ∈ L) (hf_ar11 : f ar11 = .inl (g.2.1 0, 100, .inl (fun _ => 0))) : MtI l g yX11_plan cX11_plan 2 (some .int) ({ frames := 5, cells := 0, slots := 0, locals := 105 }) [.ref mo] L f sz (fun r _ => r = (-1)) := by
  refine MtI.of (by decide +kernel) (Nat.le_of_ble_eq_true rfl) ?_
  intro p e s m below meth c A hEn hP hD hS ls hl
  obtain ⟨hx, hb, hr, hml, hown, hlocks, hts, hG, hA, hE, hnm⟩ := hEn
  have hown : s.vm.findClass "RulerWordModel" = some m.cls := hown
  have hl : lv_has ls 2 [(0, .ref mo)] := hl
  refine lv_aload_n hx hb dX11_plan_0 rfl (lv_at hl 0 rfl) ?_
  refine lv_iconst (v := 0) hx hb dX11_plan_1 (by decide) ?_
  refine pl_put (ty := .int) (v := .int 0) (fs' := [.int 0, .ref ar1, .int 0, .int 0, .int 0, .int 0, .int 0, .ref ar7, .int 0, .int 0, .ref ar10, .ref ar11, .int 0, .int 0, .int 0, .int 0, .int 0, .int 0, .int 0, .int 0, .int 0, .long 0, .long 0, .int 0, .ref ar24, .int 0, .ref ar26, .ref ar27, .ref ar28, .ref ar29, .ref ar30, .ref ar31, .ref ar32, .ref ar33, .ref ar34, .ref ar35, .int 0, .int 0, .int 0, .int 0, .int 0, .ref ar41, .ref ar42, .ref ar43, .ref ar44, .long 0, .long 0, .int 0, .int 0, .ref ar49, .int 0, .int 0, .ref ar52, .int 0, .ref ar54, .int 0]) hx hb hts (fun w h => mT (inX11 w h)) tyX11 tyX11_ok nmX11 hown hG.1 hP hD hS hm_mo hf_mo rfl 0 (by decide) (hts _ (mT wg_1336)) (fun _ h => h) rfl (by decide +kernel) (rfl) (rfl) (Nat.le_of_ble_eq_true rfl) rfl dX11_plan_2 (fun H locs f1 hf3 ho2 hP hD hS => ?_)
  have hf4 := (ho2 ar11 (kno hf_mo hf_ar11).symm).trans hf_ar11
  refine lv_aload_n hx hb dX11_plan_5 rfl (lv_at hl 0 rfl) ?_
  refine call_i (run_V (rm := { frames := 4, cells := 0, slots := 0, locals := 85 }) hx hb hml hown hts (k_X11_readsPlan l g _ _ _ mo ar1 ar7 ar10 ar11 ar24 ar26 ar27 ar28 ar29 ar30 ar31 ar32 ar33 ar34 ar35 ar41 ar42 ar43 ar44 ar49 ar52 ar54 hm_mo hf3 hm_ar11 hf4) cV_X11_readsPlan wg_1596 ⟨Nat.le_of_ble_eq_true rfl, Nat.le_of_ble_eq_true rfl⟩ hG hE hA hP hD hS hm_mo hf3 rfl rfl hl.1 (As := []) (rest := []) rfl (Nat.le_of_ble_eq_true rfl) dX11_plan_6 ⟨Nat.le_of_ble_eq_true rfl, Nat.le_of_ble_eq_true rfl⟩) hA hD hS (fun r5 L6 f7 H locs hp8 hP hD hS => ?_)
  obtain ⟨r9, hf10, hf11, er12, fr13, sb14⟩ := hp8
  have hm15 := sb14 _ hm_mo
  have hm16 := sb14 _ hm_ar11
  subst er12
  refine lv_iconst (v := (-1)) hx hb dX11_plan_9 (by decide) ?_
  refine lv_icmp_eq (tgt := 15) hx hb dX11_plan_10 (by decide) (fun c17 => absurd c17 (by decide)) (fun c17 => ?_)
  refine lv_iconst (v := (-1)) hx hb dX11_plan_13 (by decide) ?_
  exact ret_i (ty := .int) hx hb hr hlocks (rfl) hP hD hS (Nat.le_of_ble_eq_true rfl) (Nat.le_of_ble_eq_true rfl) (rfl) dX11_plan_14

set_option maxHeartbeats 4000000 in
set_option maxRecDepth 100000 in
theorem k_X11_rule (l : Launch) (g : GG) (L : List Nat) (f : HP) (sz : Nat) (mo ar1 ar7 ar10 ar11 ar24 ar26 ar27 ar28 ar29 ar30 ar31 ar32 ar33 ar34 ar35 ar41 ar42 ar43 ar44 ar49 ar52 ar54 : Nat) (w : Int32) (hm_mo : mo ∈ L) (hf_mo : f mo = .inr (10, [.int 0, .ref ar1, .int 0, .int 0, .int 0, .int 0, .int 0, .ref ar7, .int 0, .int 0, .ref ar10, .ref ar11, .int 0, .int 0, .int 0, .int 0, .int 0, .int 0, .int 0, .int 0, .int 0, .long 0, .long 0, .int 0, .ref ar24, .int 0, .ref ar26, .ref ar27, .ref ar28, .ref ar29, .ref ar30, .ref ar31, .ref ar32, .ref ar33, .ref ar34, .ref ar35, .int 0, .int 0, .int 0, .int 0, .int 0, .ref ar41, .ref ar42, .ref ar43, .ref ar44, .long 0, .long 0, .int 0, .int 0, .ref ar49, .int 0, .int 0, .ref ar52, .int 0, .ref ar54, .int 0])) : MtI l g yX11_rule cX11_rule 2 (some .int) ({ frames := 0, cells := 0, slots := 0, locals := 0 }) [.ref mo, .int w] L f sz (fun r _ => r = ruleV w) := by
  refine MtI.of (by decide +kernel) (Nat.le_of_ble_eq_true rfl) ?_
  intro p e s m below meth c A hEn hP hD hS ls hl
  obtain ⟨hx, hb, hr, hml, hown, hlocks, hts, hG, hA, hE, hnm⟩ := hEn
  have hown : s.vm.findClass "RulerWordModel" = some m.cls := hown
  have hl : lv_has ls 2 [(0, .ref mo), (1, .int w)] := hl
  refine lv_aload_n hx hb dX11_rule_0 rfl (lv_at hl 0 rfl) ?_
  refine lv_iconst (v := 0) hx hb dX11_rule_1 (by decide) ?_
  refine pl_put (ty := .int) (v := .int 0) (fs' := [.int 0, .ref ar1, .int 0, .int 0, .int 0, .int 0, .int 0, .ref ar7, .int 0, .int 0, .ref ar10, .ref ar11, .int 0, .int 0, .int 0, .int 0, .int 0, .int 0, .int 0, .int 0, .int 0, .long 0, .long 0, .int 0, .ref ar24, .int 0, .ref ar26, .ref ar27, .ref ar28, .ref ar29, .ref ar30, .ref ar31, .ref ar32, .ref ar33, .ref ar34, .ref ar35, .int 0, .int 0, .int 0, .int 0, .int 0, .ref ar41, .ref ar42, .ref ar43, .ref ar44, .long 0, .long 0, .int 0, .int 0, .ref ar49, .int 0, .int 0, .ref ar52, .int 0, .ref ar54, .int 0]) hx hb hts (fun w h => mT (inX11 w h)) tyX11 tyX11_ok nmX11 hown hG.1 hP hD hS hm_mo hf_mo rfl 0 (by decide) (hts _ (mT wg_1336)) (fun _ h => h) rfl (by decide +kernel) (rfl) (rfl) (Nat.le_of_ble_eq_true rfl) rfl dX11_rule_2 (fun H locs f1 hf3 ho2 hP hD hS => ?_)
  refine lv_iload_n hx hb dX11_rule_5 rfl (lv_at hl 1 rfl) ?_
  refine lv_bipush (v := 10) hx hb dX11_rule_6 (by decide) ?_
  refine lv_icmp_ne (tgt := 16) hx hb dX11_rule_8 (by decide) (fun c4 => ?_) (fun c4 => ?_)
  ·
    refine lv_aload_n hx hb dX11_rule_16 rfl (lv_at hl 0 rfl) ?_
    refine pl_get (v := .int 0) hx hb hts (fun w h => mT (inX11 w h)) hown hG.1 hP hm_mo hf3 rfl 23 (by decide) (hts _ (mT wg_1359)) (fun _ h => h) rfl dX11_rule_17 ?_
    refine lv_if_ne (tgt := 27) hx hb dX11_rule_20 (by decide) (fun c5 => absurd rfl c5) (fun c5 => ?_)
    refine lv_ldcw hx hb hown (hts _ (mT wg_1756)) dX11_rule_23 ?_
    exact ret_i (ty := .int) hx hb hr hlocks (rfl) hP hD hS (Nat.le_of_ble_eq_true rfl) (Nat.le_of_ble_eq_true rfl) (by simp [ruleV, c4]) dX11_rule_26
  ·
    refine lv_aload_n hx hb dX11_rule_11 rfl (lv_at hl 0 rfl) ?_
    refine pl_get (v := .int 0) hx hb hts (fun w h => mT (inX11 w h)) hown hG.1 hP hm_mo hf3 rfl 12 (by decide) (hts _ (mT wg_1348)) (fun _ h => h) rfl dX11_rule_12 ?_
    exact ret_i (ty := .int) hx hb hr hlocks (rfl) hP hD hS (Nat.le_of_ble_eq_true rfl) (Nat.le_of_ble_eq_true rfl) (by simp [ruleV, c4]) dX11_rule_15

set_option maxHeartbeats 4000000 in
set_option maxRecDepth 100000 in
theorem k_X11_round (l : Launch) (g : GG) (L : List Nat) (f : HP) (sz : Nat) (mo ar1 ar7 ar10 ar11 ar24 ar26 ar27 ar28 ar29 ar30 ar31 ar32 ar33 ar34 ar35 ar41 ar42 ar43 ar44 ar49 ar52 ar54 : Nat) (hm_mo : mo ∈ L) (hf_mo : f mo = .inr (10, [.int 0, .ref ar1, .int 0, .int 0, .int 0, .int 0, .int 0, .ref ar7, .int 0, .int 0, .ref ar10, .ref ar11, .int 0, .int 0, .int 0, .int 0, .int 0, .int 0, .int 0, .int 0, .int 0, .long 0, .long 0, .int 0, .ref ar24, .int 0, .ref ar26, .ref ar27, .ref ar28, .ref ar29, .ref ar30, .ref ar31, .ref ar32, .ref ar33, .ref ar34, .ref ar35, .int 0, .int 0, .int 0, .int 0, .int 0, .ref ar41, .ref ar42, .ref ar43, .ref ar44, .long 0, .long 0, .int 0, .int 0, .ref ar49, .int 0, .int 0, .ref ar52, .int 0, .ref ar54, .int 0])) : MtI l g yX11_round cX11_round 1 (some .int) ({ frames := 0, cells := 0, slots := 0, locals := 0 }) [.ref mo] L f sz (fun r _ => r = (-1)) := by
  refine MtI.of (by decide +kernel) (Nat.le_of_ble_eq_true rfl) ?_
  intro p e s m below meth c A hEn hP hD hS ls hl
  obtain ⟨hx, hb, hr, hml, hown, hlocks, hts, hG, hA, hE, hnm⟩ := hEn
  have hown : s.vm.findClass "RulerWordModel" = some m.cls := hown
  have hl : lv_has ls 1 [(0, .ref mo)] := hl
  refine lv_aload_n hx hb dX11_round_0 rfl (lv_at hl 0 rfl) ?_
  refine lv_iconst (v := 0) hx hb dX11_round_1 (by decide) ?_
  refine pl_put (ty := .int) (v := .int 0) (fs' := [.int 0, .ref ar1, .int 0, .int 0, .int 0, .int 0, .int 0, .ref ar7, .int 0, .int 0, .ref ar10, .ref ar11, .int 0, .int 0, .int 0, .int 0, .int 0, .int 0, .int 0, .int 0, .int 0, .long 0, .long 0, .int 0, .ref ar24, .int 0, .ref ar26, .ref ar27, .ref ar28, .ref ar29, .ref ar30, .ref ar31, .ref ar32, .ref ar33, .ref ar34, .ref ar35, .int 0, .int 0, .int 0, .int 0, .int 0, .ref ar41, .ref ar42, .ref ar43, .ref ar44, .long 0, .long 0, .int 0, .int 0, .ref ar49, .int 0, .int 0, .ref ar52, .int 0, .ref ar54, .int 0]) hx hb hts (fun w h => mT (inX11 w h)) tyX11 tyX11_ok nmX11 hown hG.1 hP hD hS hm_mo hf_mo rfl 0 (by decide) (hts _ (mT wg_1336)) (fun _ h => h) rfl (by decide +kernel) (rfl) (rfl) (Nat.le_of_ble_eq_true rfl) rfl dX11_round_2 (fun H locs f1 hf3 ho2 hP hD hS => ?_)
  refine lv_aload_n hx hb dX11_round_5 rfl (lv_at hl 0 rfl) ?_
  refine pl_get (v := .int 0) hx hb hts (fun w h => mT (inX11 w h)) hown hG.1 hP hm_mo hf3 rfl 23 (by decide) (hts _ (mT wg_1359)) (fun _ h => h) rfl dX11_round_6 ?_
  refine lv_if_eq (tgt := 26) hx hb dX11_round_9 (by decide) (fun c4 => ?_) (fun c4 => absurd (by decide) c4)
  refine lv_iconst (v := (-1)) hx hb dX11_round_26 (by decide) ?_
  exact ret_i (ty := .int) hx hb hr hlocks (rfl) hP hD hS (Nat.le_of_ble_eq_true rfl) (Nat.le_of_ble_eq_true rfl) (rfl) dX11_round_27

set_option maxHeartbeats 4000000 in
set_option maxRecDepth 100000 in
theorem k_X11_run (l : Launch) (g : GG) (L : List Nat) (f : HP) (sz : Nat) (mo ar1 ar7 ar10 ar11 ar24 ar26 ar27 ar28 ar29 ar30 ar31 ar32 ar33 ar34 ar35 ar41 ar42 ar43 ar44 ar49 ar52 ar54 : Nat) (hm_mo : mo ∈ L) (hf_mo : f mo = .inr (10, [.int 0, .ref ar1, .int 0, .int 0, .int 0, .int 0, .int 0, .ref ar7, .int 0, .int 0, .ref ar10, .ref ar11, .int 0, .int 0, .int 0, .int 0, .int 0, .int 0, .int 0, .int 0, .int 0, .long 0, .long 0, .int 0, .ref ar24, .int 0, .ref ar26, .ref ar27, .ref ar28, .ref ar29, .ref ar30, .ref ar31, .ref ar32, .ref ar33, .ref ar34, .ref ar35, .int 0, .int 0, .int 0, .int 0, .int 0, .ref ar41, .ref ar42, .ref ar43, .ref ar44, .long 0, .long 0, .int 0, .int 0, .ref ar49, .int 0, .int 0, .ref ar52, .int 0, .ref ar54, .int 0])) : MtI l g yX11_run cX11_run 3 (some .int) ({ frames := 0, cells := 0, slots := 0, locals := 0 }) [.ref mo] L f sz (fun r _ => r = (-1)) := by
  refine MtI.of (by decide +kernel) (Nat.le_of_ble_eq_true rfl) ?_
  intro p e s m below meth c A hEn hP hD hS ls hl
  obtain ⟨hx, hb, hr, hml, hown, hlocks, hts, hG, hA, hE, hnm⟩ := hEn
  have hown : s.vm.findClass "RulerWordModel" = some m.cls := hown
  have hl : lv_has ls 3 [(0, .ref mo)] := hl
  refine lv_aload_n hx hb dX11_run_0 rfl (lv_at hl 0 rfl) ?_
  refine lv_iconst (v := 0) hx hb dX11_run_1 (by decide) ?_
  refine pl_put (ty := .int) (v := .int 0) (fs' := [.int 0, .ref ar1, .int 0, .int 0, .int 0, .int 0, .int 0, .ref ar7, .int 0, .int 0, .ref ar10, .ref ar11, .int 0, .int 0, .int 0, .int 0, .int 0, .int 0, .int 0, .int 0, .int 0, .long 0, .long 0, .int 0, .ref ar24, .int 0, .ref ar26, .ref ar27, .ref ar28, .ref ar29, .ref ar30, .ref ar31, .ref ar32, .ref ar33, .ref ar34, .ref ar35, .int 0, .int 0, .int 0, .int 0, .int 0, .ref ar41, .ref ar42, .ref ar43, .ref ar44, .long 0, .long 0, .int 0, .int 0, .ref ar49, .int 0, .int 0, .ref ar52, .int 0, .ref ar54, .int 0]) hx hb hts (fun w h => mT (inX11 w h)) tyX11 tyX11_ok nmX11 hown hG.1 hP hD hS hm_mo hf_mo rfl 0 (by decide) (hts _ (mT wg_1336)) (fun _ h => h) rfl (by decide +kernel) (rfl) (rfl) (Nat.le_of_ble_eq_true rfl) rfl dX11_run_2 (fun H locs f1 hf3 ho2 hP hD hS => ?_)
  refine lv_aload_n hx hb dX11_run_5 rfl (lv_at hl 0 rfl) ?_
  refine pl_get (v := .int 0) hx hb hts (fun w h => mT (inX11 w h)) hown hG.1 hP hm_mo hf3 rfl 23 (by decide) (hts _ (mT wg_1359)) (fun _ h => h) rfl dX11_run_6 ?_
  refine lv_if_eq (tgt := 26) hx hb dX11_run_9 (by decide) (fun c4 => ?_) (fun c4 => absurd (by decide) c4)
  refine lv_iconst (v := (-1)) hx hb dX11_run_26 (by decide) ?_
  exact ret_i (ty := .int) hx hb hr hlocks (rfl) hP hD hS (Nat.le_of_ble_eq_true rfl) (Nat.le_of_ble_eq_true rfl) (rfl) dX11_run_27

set_option maxHeartbeats 4000000 in
set_option maxRecDepth 100000 in
theorem k_X11_say (l : Launch) (g : GG) (L : List Nat) (f : HP) (sz : Nat) (mo ar1 ar7 ar10 ar11 ar24 ar26 ar27 ar28 ar29 ar30 ar31 ar32 ar33 ar34 ar35 ar41 ar42 ar43 ar44 ar49 ar52 ar54 : Nat) (a1 : Int32) (a2 : Int32) (a3 : Int32) (a4 : Int32) (a5 : Int32) (hm_mo : mo ∈ L) (hf_mo : f mo = .inr (10, [.int 0, .ref ar1, .int 0, .int 0, .int 0, .int 0, .int 0, .ref ar7, .int 0, .int 0, .ref ar10, .ref ar11, .int 0, .int 0, .int 0, .int 0, .int 0, .int 0, .int 0, .int 0, .int 0, .long 0, .long 0, .int 0, .ref ar24, .int 0, .ref ar26, .ref ar27, .ref ar28, .ref ar29, .ref ar30, .ref ar31, .ref ar32, .ref ar33, .ref ar34, .ref ar35, .int 0, .int 0, .int 0, .int 0, .int 0, .ref ar41, .ref ar42, .ref ar43, .ref ar44, .long 0, .long 0, .int 0, .int 0, .ref ar49, .int 0, .int 0, .ref ar52, .int 0, .ref ar54, .int 0])) (hm_ar49 : ar49 ∈ L) (hf_ar49 : f ar49 = .inl (g.2.1 0, 5, .inl (fun _ => 0))) : MtI l g yX11_say cX11_say 7 (some .int) ({ frames := 1, cells := 0, slots := 0, locals := 21 }) [.ref mo, .int a1, .int a2, .int a3, .int a4, .int a5] L f sz (fun r _ => r = (-1)) := by
  refine MtI.of (by decide +kernel) (Nat.le_of_ble_eq_true rfl) ?_
  intro p e s m below meth c A hEn hP hD hS ls hl
  obtain ⟨hx, hb, hr, hml, hown, hlocks, hts, hG, hA, hE, hnm⟩ := hEn
  have hown : s.vm.findClass "RulerWordModel" = some m.cls := hown
  have hl : lv_has ls 7 [(0, .ref mo), (1, .int a1), (2, .int a2), (3, .int a3), (4, .int a4), (5, .int a5)] := hl
  refine lv_aload_n hx hb dX11_say_0 rfl (lv_at hl 0 rfl) ?_
  refine lv_iconst (v := 0) hx hb dX11_say_1 (by decide) ?_
  refine pl_put (ty := .int) (v := .int 0) (fs' := [.int 0, .ref ar1, .int 0, .int 0, .int 0, .int 0, .int 0, .ref ar7, .int 0, .int 0, .ref ar10, .ref ar11, .int 0, .int 0, .int 0, .int 0, .int 0, .int 0, .int 0, .int 0, .int 0, .long 0, .long 0, .int 0, .ref ar24, .int 0, .ref ar26, .ref ar27, .ref ar28, .ref ar29, .ref ar30, .ref ar31, .ref ar32, .ref ar33, .ref ar34, .ref ar35, .int 0, .int 0, .int 0, .int 0, .int 0, .ref ar41, .ref ar42, .ref ar43, .ref ar44, .long 0, .long 0, .int 0, .int 0, .ref ar49, .int 0, .int 0, .ref ar52, .int 0, .ref ar54, .int 0]) hx hb hts (fun w h => mT (inX11 w h)) tyX11 tyX11_ok nmX11 hown hG.1 hP hD hS hm_mo hf_mo rfl 0 (by decide) (hts _ (mT wg_1336)) (fun _ h => h) rfl (by decide +kernel) (rfl) (rfl) (Nat.le_of_ble_eq_true rfl) rfl dX11_say_2 (fun H locs f1 hf3 ho2 hP hD hS => ?_)
  have hf4 := (ho2 ar49 (kno hf_mo hf_ar49).symm).trans hf_ar49
  refine lv_aload_n hx hb dX11_say_5 rfl (lv_at hl 0 rfl) ?_
  refine pl_get (v := .int 0) hx hb hts (fun w h => mT (inX11 w h)) hown hG.1 hP hm_mo hf3 rfl 23 (by decide) (hts _ (mT wg_1359)) (fun _ h => h) rfl dX11_say_6 ?_
  refine lv_if_ne (tgt := 18) hx hb dX11_say_9 (by decide) (fun c5 => absurd rfl c5) (fun c5 => ?_)
  refine lv_aload_n hx hb dX11_say_12 rfl (lv_at hl 0 rfl) ?_
  refine lv_iconst (v := 0) hx hb dX11_say_13 (by decide) ?_
  refine call_i (run_V (rm := { frames := 0, cells := 0, slots := 0, locals := 0 }) hx hb hml hown hts (k_X11_refuse l g _ _ _ mo ar1 ar7 ar10 ar11 ar24 ar26 ar27 ar28 ar29 ar30 ar31 ar32 ar33 ar34 ar35 ar41 ar42 ar43 ar44 ar49 ar52 ar54 hm_mo hf3 hm_ar49 hf4) cV_X11_refuse wg_1714 ⟨Nat.le_of_ble_eq_true rfl, Nat.le_of_ble_eq_true rfl⟩ hG hE hA hP hD hS hm_mo hf3 rfl rfl hl.1 (As := [.int 0]) (rest := []) rfl (Nat.le_of_ble_eq_true rfl) dX11_say_14 ⟨Nat.le_of_ble_eq_true rfl, Nat.le_of_ble_eq_true rfl⟩) hA hD hS (fun r6 L7 f8 H locs hp9 hP hD hS => ?_)
  obtain ⟨r10, hf11, er12, fr13, sb14⟩ := hp9
  have hf16 := (fr13 mo hm_mo (kno hf3 hf4)).trans hf3
  have hm15 := sb14 _ hm_mo
  have hm17 := sb14 _ hm_ar49
  subst er12
  exact ret_i (ty := .int) hx hb hr hlocks (rfl) hP hD hS (Nat.le_of_ble_eq_true rfl) (Nat.le_of_ble_eq_true rfl) (rfl) dX11_say_17

set_option maxHeartbeats 4000000 in
set_option maxRecDepth 100000 in
theorem k_X11_starts_ (l : Launch) (g : GG) (L : List Nat) (f : HP) (sz : Nat) (mo ar1 ar7 ar10 ar11 ar24 ar26 ar27 ar28 ar29 ar30 ar31 ar32 ar33 ar34 ar35 ar41 ar42 ar43 ar44 ar49 ar52 ar54 : Nat) (b : Int32) (hm_mo : mo ∈ L) (hf_mo : f mo = .inr (10, [.int 0, .ref ar1, .int 0, .int 0, .int 0, .int 0, .int 0, .ref ar7, .int 0, .int 0, .ref ar10, .ref ar11, .int 0, .int 0, .int 0, .int 0, .int 0, .int 0, .int 0, .int 0, .int 0, .long 0, .long 0, .int 0, .ref ar24, .int 0, .ref ar26, .ref ar27, .ref ar28, .ref ar29, .ref ar30, .ref ar31, .ref ar32, .ref ar33, .ref ar34, .ref ar35, .int 0, .int 0, .int 0, .int 0, .int 0, .ref ar41, .ref ar42, .ref ar43, .ref ar44, .long 0, .long 0, .int 0, .int 0, .ref ar49, .int 0, .int 0, .ref ar52, .int 0, .ref ar54, .int 0])) (hm_ar49 : ar49 ∈ L) (hf_ar49 : f ar49 = .inl (g.2.1 0, 5, .inl (fun _ => 0))) : MtI l g yX11_starts_ cX11_starts_ 3 (some .int) ({ frames := 1, cells := 0, slots := 0, locals := 21 }) [.ref mo, .int b] L f sz (fun r _ => r = (-1)) := by
  refine MtI.of (by decide +kernel) (Nat.le_of_ble_eq_true rfl) ?_
  intro p e s m below meth c A hEn hP hD hS ls hl
  obtain ⟨hx, hb, hr, hml, hown, hlocks, hts, hG, hA, hE, hnm⟩ := hEn
  have hown : s.vm.findClass "RulerWordModel" = some m.cls := hown
  have hl : lv_has ls 3 [(0, .ref mo), (1, .int b)] := hl
  refine lv_aload_n hx hb dX11_starts__0 rfl (lv_at hl 0 rfl) ?_
  refine lv_iconst (v := 0) hx hb dX11_starts__1 (by decide) ?_
  refine pl_put (ty := .int) (v := .int 0) (fs' := [.int 0, .ref ar1, .int 0, .int 0, .int 0, .int 0, .int 0, .ref ar7, .int 0, .int 0, .ref ar10, .ref ar11, .int 0, .int 0, .int 0, .int 0, .int 0, .int 0, .int 0, .int 0, .int 0, .long 0, .long 0, .int 0, .ref ar24, .int 0, .ref ar26, .ref ar27, .ref ar28, .ref ar29, .ref ar30, .ref ar31, .ref ar32, .ref ar33, .ref ar34, .ref ar35, .int 0, .int 0, .int 0, .int 0, .int 0, .ref ar41, .ref ar42, .ref ar43, .ref ar44, .long 0, .long 0, .int 0, .int 0, .ref ar49, .int 0, .int 0, .ref ar52, .int 0, .ref ar54, .int 0]) hx hb hts (fun w h => mT (inX11 w h)) tyX11 tyX11_ok nmX11 hown hG.1 hP hD hS hm_mo hf_mo rfl 0 (by decide) (hts _ (mT wg_1336)) (fun _ h => h) rfl (by decide +kernel) (rfl) (rfl) (Nat.le_of_ble_eq_true rfl) rfl dX11_starts__2 (fun H locs f1 hf3 ho2 hP hD hS => ?_)
  have hf4 := (ho2 ar49 (kno hf_mo hf_ar49).symm).trans hf_ar49
  refine lv_aload_n hx hb dX11_starts__5 rfl (lv_at hl 0 rfl) ?_
  refine pl_get (v := .int 0) hx hb hts (fun w h => mT (inX11 w h)) hown hG.1 hP hm_mo hf3 rfl 23 (by decide) (hts _ (mT wg_1359)) (fun _ h => h) rfl dX11_starts__6 ?_
  refine lv_if_ne (tgt := 18) hx hb dX11_starts__9 (by decide) (fun c5 => absurd rfl c5) (fun c5 => ?_)
  refine lv_aload_n hx hb dX11_starts__12 rfl (lv_at hl 0 rfl) ?_
  refine lv_iconst (v := 0) hx hb dX11_starts__13 (by decide) ?_
  refine call_i (run_V (rm := { frames := 0, cells := 0, slots := 0, locals := 0 }) hx hb hml hown hts (k_X11_refuse l g _ _ _ mo ar1 ar7 ar10 ar11 ar24 ar26 ar27 ar28 ar29 ar30 ar31 ar32 ar33 ar34 ar35 ar41 ar42 ar43 ar44 ar49 ar52 ar54 hm_mo hf3 hm_ar49 hf4) cV_X11_refuse wg_1714 ⟨Nat.le_of_ble_eq_true rfl, Nat.le_of_ble_eq_true rfl⟩ hG hE hA hP hD hS hm_mo hf3 rfl rfl hl.1 (As := [.int 0]) (rest := []) rfl (Nat.le_of_ble_eq_true rfl) dX11_starts__14 ⟨Nat.le_of_ble_eq_true rfl, Nat.le_of_ble_eq_true rfl⟩) hA hD hS (fun r6 L7 f8 H locs hp9 hP hD hS => ?_)
  obtain ⟨r10, hf11, er12, fr13, sb14⟩ := hp9
  have hf16 := (fr13 mo hm_mo (kno hf3 hf4)).trans hf3
  have hm15 := sb14 _ hm_mo
  have hm17 := sb14 _ hm_ar49
  subst er12
  exact ret_i (ty := .int) hx hb hr hlocks (rfl) hP hD hS (Nat.le_of_ble_eq_true rfl) (Nat.le_of_ble_eq_true rfl) (rfl) dX11_starts__17

set_option maxHeartbeats 4000000 in
set_option maxRecDepth 100000 in
theorem k_X11_falseOnes (l : Launch) (g : GG) (L : List Nat) (f : HP) (sz : Nat) (mo ar1 ar7 ar10 ar11 ar24 ar26 ar27 ar28 ar29 ar30 ar31 ar32 ar33 ar34 ar35 ar41 ar42 ar43 ar44 ar49 ar52 ar54 : Nat) (b : Int32) (hm_mo : mo ∈ L) (hf_mo : f mo = .inr (10, [.int 0, .ref ar1, .int 0, .int 0, .int 0, .int 0, .int 0, .ref ar7, .int 0, .int 0, .ref ar10, .ref ar11, .int 0, .int 0, .int 0, .int 0, .int 0, .int 0, .int 0, .int 0, .int 0, .long 0, .long 0, .int 0, .ref ar24, .int 0, .ref ar26, .ref ar27, .ref ar28, .ref ar29, .ref ar30, .ref ar31, .ref ar32, .ref ar33, .ref ar34, .ref ar35, .int 0, .int 0, .int 0, .int 0, .int 0, .ref ar41, .ref ar42, .ref ar43, .ref ar44, .long 0, .long 0, .int 0, .int 0, .ref ar49, .int 0, .int 0, .ref ar52, .int 0, .ref ar54, .int 0])) (hm_ar49 : ar49 ∈ L) (hf_ar49 : f ar49 = .inl (g.2.1 0, 5, .inl (fun _ => 0))) : MtI l g yX11_falseOnes cX11_falseOnes 6 (some .int) ({ frames := 1, cells := 0, slots := 0, locals := 21 }) [.ref mo, .int b] L f sz (fun r _ => r = (-1)) := by
  refine MtI.of (by decide +kernel) (Nat.le_of_ble_eq_true rfl) ?_
  intro p e s m below meth c A hEn hP hD hS ls hl
  obtain ⟨hx, hb, hr, hml, hown, hlocks, hts, hG, hA, hE, hnm⟩ := hEn
  have hown : s.vm.findClass "RulerWordModel" = some m.cls := hown
  have hl : lv_has ls 6 [(0, .ref mo), (1, .int b)] := hl
  refine lv_aload_n hx hb dX11_falseOnes_0 rfl (lv_at hl 0 rfl) ?_
  refine lv_iconst (v := 0) hx hb dX11_falseOnes_1 (by decide) ?_
  refine pl_put (ty := .int) (v := .int 0) (fs' := [.int 0, .ref ar1, .int 0, .int 0, .int 0, .int 0, .int 0, .ref ar7, .int 0, .int 0, .ref ar10, .ref ar11, .int 0, .int 0, .int 0, .int 0, .int 0, .int 0, .int 0, .int 0, .int 0, .long 0, .long 0, .int 0, .ref ar24, .int 0, .ref ar26, .ref ar27, .ref ar28, .ref ar29, .ref ar30, .ref ar31, .ref ar32, .ref ar33, .ref ar34, .ref ar35, .int 0, .int 0, .int 0, .int 0, .int 0, .ref ar41, .ref ar42, .ref ar43, .ref ar44, .long 0, .long 0, .int 0, .int 0, .ref ar49, .int 0, .int 0, .ref ar52, .int 0, .ref ar54, .int 0]) hx hb hts (fun w h => mT (inX11 w h)) tyX11 tyX11_ok nmX11 hown hG.1 hP hD hS hm_mo hf_mo rfl 0 (by decide) (hts _ (mT wg_1336)) (fun _ h => h) rfl (by decide +kernel) (rfl) (rfl) (Nat.le_of_ble_eq_true rfl) rfl dX11_falseOnes_2 (fun H locs f1 hf3 ho2 hP hD hS => ?_)
  have hf4 := (ho2 ar49 (kno hf_mo hf_ar49).symm).trans hf_ar49
  refine lv_aload_n hx hb dX11_falseOnes_5 rfl (lv_at hl 0 rfl) ?_
  refine pl_get (v := .int 0) hx hb hts (fun w h => mT (inX11 w h)) hown hG.1 hP hm_mo hf3 rfl 23 (by decide) (hts _ (mT wg_1359)) (fun _ h => h) rfl dX11_falseOnes_6 ?_
  refine lv_if_ne (tgt := 18) hx hb dX11_falseOnes_9 (by decide) (fun c5 => absurd rfl c5) (fun c5 => ?_)
  refine lv_aload_n hx hb dX11_falseOnes_12 rfl (lv_at hl 0 rfl) ?_
  refine lv_iconst (v := 0) hx hb dX11_falseOnes_13 (by decide) ?_
  refine call_i (run_V (rm := { frames := 0, cells := 0, slots := 0, locals := 0 }) hx hb hml hown hts (k_X11_refuse l g _ _ _ mo ar1 ar7 ar10 ar11 ar24 ar26 ar27 ar28 ar29 ar30 ar31 ar32 ar33 ar34 ar35 ar41 ar42 ar43 ar44 ar49 ar52 ar54 hm_mo hf3 hm_ar49 hf4) cV_X11_refuse wg_1714 ⟨Nat.le_of_ble_eq_true rfl, Nat.le_of_ble_eq_true rfl⟩ hG hE hA hP hD hS hm_mo hf3 rfl rfl hl.1 (As := [.int 0]) (rest := []) rfl (Nat.le_of_ble_eq_true rfl) dX11_falseOnes_14 ⟨Nat.le_of_ble_eq_true rfl, Nat.le_of_ble_eq_true rfl⟩) hA hD hS (fun r6 L7 f8 H locs hp9 hP hD hS => ?_)
  obtain ⟨r10, hf11, er12, fr13, sb14⟩ := hp9
  have hf16 := (fr13 mo hm_mo (kno hf3 hf4)).trans hf3
  have hm15 := sb14 _ hm_mo
  have hm17 := sb14 _ hm_ar49
  subst er12
  exact ret_i (ty := .int) hx hb hr hlocks (rfl) hP hD hS (Nat.le_of_ble_eq_true rfl) (Nat.le_of_ble_eq_true rfl) (rfl) dX11_falseOnes_17

set_option maxHeartbeats 4000000 in
set_option maxRecDepth 100000 in
theorem k_X11_heard (l : Launch) (g : GG) (L : List Nat) (f : HP) (sz : Nat) (mo ar1 ar7 ar10 ar11 ar24 ar26 ar27 ar28 ar29 ar30 ar31 ar32 ar33 ar34 ar35 ar41 ar42 ar43 ar44 ar49 ar52 ar54 : Nat) (a1 : Int32) (a2 : Int32) (a3 : Int32) (a4 : Int32) (hm_mo : mo ∈ L) (hf_mo : f mo = .inr (10, [.int 0, .ref ar1, .int 0, .int 0, .int 0, .int 0, .int 0, .ref ar7, .int 0, .int 0, .ref ar10, .ref ar11, .int 0, .int 0, .int 0, .int 0, .int 0, .int 0, .int 0, .int 0, .int 0, .long 0, .long 0, .int 0, .ref ar24, .int 0, .ref ar26, .ref ar27, .ref ar28, .ref ar29, .ref ar30, .ref ar31, .ref ar32, .ref ar33, .ref ar34, .ref ar35, .int 0, .int 0, .int 0, .int 0, .int 0, .ref ar41, .ref ar42, .ref ar43, .ref ar44, .long 0, .long 0, .int 0, .int 0, .ref ar49, .int 0, .int 0, .ref ar52, .int 0, .ref ar54, .int 0])) : MtI l g yX11_heard cX11_heard 5 (some .int) ({ frames := 1, cells := 0, slots := 0, locals := 22 }) [.ref mo, .int a1, .int a2, .int a3, .int a4] L f sz (fun r _ => r = (-1)) := by
  refine MtI.of (by decide +kernel) (Nat.le_of_ble_eq_true rfl) ?_
  intro p e s m below meth c A hEn hP hD hS ls hl
  obtain ⟨hx, hb, hr, hml, hown, hlocks, hts, hG, hA, hE, hnm⟩ := hEn
  have hown : s.vm.findClass "RulerWordModel" = some m.cls := hown
  have hl : lv_has ls 5 [(0, .ref mo), (1, .int a1), (2, .int a2), (3, .int a3), (4, .int a4)] := hl
  refine lv_aload_n hx hb dX11_heard_0 rfl (lv_at hl 0 rfl) ?_
  refine lv_iconst (v := 0) hx hb dX11_heard_1 (by decide) ?_
  refine pl_put (ty := .int) (v := .int 0) (fs' := [.int 0, .ref ar1, .int 0, .int 0, .int 0, .int 0, .int 0, .ref ar7, .int 0, .int 0, .ref ar10, .ref ar11, .int 0, .int 0, .int 0, .int 0, .int 0, .int 0, .int 0, .int 0, .int 0, .long 0, .long 0, .int 0, .ref ar24, .int 0, .ref ar26, .ref ar27, .ref ar28, .ref ar29, .ref ar30, .ref ar31, .ref ar32, .ref ar33, .ref ar34, .ref ar35, .int 0, .int 0, .int 0, .int 0, .int 0, .ref ar41, .ref ar42, .ref ar43, .ref ar44, .long 0, .long 0, .int 0, .int 0, .ref ar49, .int 0, .int 0, .ref ar52, .int 0, .ref ar54, .int 0]) hx hb hts (fun w h => mT (inX11 w h)) tyX11 tyX11_ok nmX11 hown hG.1 hP hD hS hm_mo hf_mo rfl 0 (by decide) (hts _ (mT wg_1336)) (fun _ h => h) rfl (by decide +kernel) (rfl) (rfl) (Nat.le_of_ble_eq_true rfl) rfl dX11_heard_2 (fun H locs f1 hf3 ho2 hP hD hS => ?_)
  refine lv_aload_n hx hb dX11_heard_5 rfl (lv_at hl 0 rfl) ?_
  refine lv_iload_n hx hb dX11_heard_6 rfl (lv_at hl 1 rfl) ?_
  refine lv_iload_n hx hb dX11_heard_7 rfl (lv_at hl 2 rfl) ?_
  refine call_i (run_V (rm := { frames := 0, cells := 0, slots := 0, locals := 0 }) hx hb hml hown hts (k_X11_isRound l g _ _ _ mo ar1 ar7 ar10 ar11 ar24 ar26 ar27 ar28 ar29 ar30 ar31 ar32 ar33 ar34 ar35 ar41 ar42 ar43 ar44 ar49 ar52 ar54 a1 a2 hm_mo hf3) cV_X11_isRound wg_1718 ⟨Nat.le_of_ble_eq_true rfl, Nat.le_of_ble_eq_true rfl⟩ hG hE hA hP hD hS hm_mo hf3 rfl rfl hl.1 (As := [.int a1, .int a2]) (rest := []) rfl (Nat.le_of_ble_eq_true rfl) dX11_heard_8 ⟨Nat.le_of_ble_eq_true rfl, Nat.le_of_ble_eq_true rfl⟩) hA hD hS (fun r4 L5 f6 H locs hp7 hP hD hS => ?_)
  obtain ⟨er8, fr9, sb10⟩ := hp7
  have hf12 := (fr9 mo hm_mo ).trans hf3
  have hm11 := sb10 _ hm_mo
  subst er8
  refine lv_if_eq (tgt := 49) hx hb dX11_heard_11 (by decide) (fun c13 => ?_) (fun c13 => absurd (by decide) c13)
  refine lv_iconst (v := (-1)) hx hb dX11_heard_49 (by decide) ?_
  exact ret_i (ty := .int) hx hb hr hlocks (rfl) hP hD hS (Nat.le_of_ble_eq_true rfl) (Nat.le_of_ble_eq_true rfl) (rfl) dX11_heard_50

set_option maxHeartbeats 4000000 in
set_option maxRecDepth 100000 in
theorem k_X11_peer (l : Launch) (g : GG) (L : List Nat) (f : HP) (sz : Nat) (mo ar1 ar7 ar10 ar11 ar24 ar26 ar27 ar28 ar29 ar30 ar31 ar32 ar33 ar34 ar35 ar41 ar42 ar43 ar44 ar49 ar52 ar54 : Nat) (i : Int32) (w : Int32) (hm_mo : mo ∈ L) (hf_mo : f mo = .inr (10, [.int 0, .ref ar1, .int 0, .int 0, .int 0, .int 0, .int 0, .ref ar7, .int 0, .int 0, .ref ar10, .ref ar11, .int 0, .int 0, .int 0, .int 0, .int 0, .int 0, .int 0, .int 0, .int 0, .long 0, .long 0, .int 0, .ref ar24, .int 0, .ref ar26, .ref ar27, .ref ar28, .ref ar29, .ref ar30, .ref ar31, .ref ar32, .ref ar33, .ref ar34, .ref ar35, .int 0, .int 0, .int 0, .int 0, .int 0, .ref ar41, .ref ar42, .ref ar43, .ref ar44, .long 0, .long 0, .int 0, .int 0, .ref ar49, .int 0, .int 0, .ref ar52, .int 0, .ref ar54, .int 0])) : MtI l g yX11_peer cX11_peer 3 (some .int) ({ frames := 1, cells := 0, slots := 0, locals := 21 }) [.ref mo, .int i, .int w] L f sz (fun r _ => r = (-1)) := by
  refine MtI.of (by decide +kernel) (Nat.le_of_ble_eq_true rfl) ?_
  intro p e s m below meth c A hEn hP hD hS ls hl
  obtain ⟨hx, hb, hr, hml, hown, hlocks, hts, hG, hA, hE, hnm⟩ := hEn
  have hown : s.vm.findClass "RulerWordModel" = some m.cls := hown
  have hl : lv_has ls 3 [(0, .ref mo), (1, .int i), (2, .int w)] := hl
  refine lv_aload_n hx hb dX11_peer_0 rfl (lv_at hl 0 rfl) ?_
  refine lv_iconst (v := 0) hx hb dX11_peer_1 (by decide) ?_
  refine pl_put (ty := .int) (v := .int 0) (fs' := [.int 0, .ref ar1, .int 0, .int 0, .int 0, .int 0, .int 0, .ref ar7, .int 0, .int 0, .ref ar10, .ref ar11, .int 0, .int 0, .int 0, .int 0, .int 0, .int 0, .int 0, .int 0, .int 0, .long 0, .long 0, .int 0, .ref ar24, .int 0, .ref ar26, .ref ar27, .ref ar28, .ref ar29, .ref ar30, .ref ar31, .ref ar32, .ref ar33, .ref ar34, .ref ar35, .int 0, .int 0, .int 0, .int 0, .int 0, .ref ar41, .ref ar42, .ref ar43, .ref ar44, .long 0, .long 0, .int 0, .int 0, .ref ar49, .int 0, .int 0, .ref ar52, .int 0, .ref ar54, .int 0]) hx hb hts (fun w h => mT (inX11 w h)) tyX11 tyX11_ok nmX11 hown hG.1 hP hD hS hm_mo hf_mo rfl 0 (by decide) (hts _ (mT wg_1336)) (fun _ h => h) rfl (by decide +kernel) (rfl) (rfl) (Nat.le_of_ble_eq_true rfl) rfl dX11_peer_2 (fun H locs f1 hf3 ho2 hP hD hS => ?_)
  refine lv_aload_n hx hb dX11_peer_5 rfl (lv_at hl 0 rfl) ?_
  refine lv_iload_n hx hb dX11_peer_6 rfl (lv_at hl 1 rfl) ?_
  refine call_i (run_V (rm := { frames := 0, cells := 0, slots := 0, locals := 0 }) hx hb hml hown hts (k_X11_isPeer l g _ _ _ mo ar1 ar7 ar10 ar11 ar24 ar26 ar27 ar28 ar29 ar30 ar31 ar32 ar33 ar34 ar35 ar41 ar42 ar43 ar44 ar49 ar52 ar54 i hm_mo hf3) cV_X11_isPeer wg_1722 ⟨Nat.le_of_ble_eq_true rfl, Nat.le_of_ble_eq_true rfl⟩ hG hE hA hP hD hS hm_mo hf3 rfl rfl hl.1 (As := [.int i]) (rest := []) rfl (Nat.le_of_ble_eq_true rfl) dX11_peer_7 ⟨Nat.le_of_ble_eq_true rfl, Nat.le_of_ble_eq_true rfl⟩) hA hD hS (fun r4 L5 f6 H locs hp7 hP hD hS => ?_)
  obtain ⟨er8, fr9, sb10⟩ := hp7
  have hf12 := (fr9 mo hm_mo ).trans hf3
  have hm11 := sb10 _ hm_mo
  subst er8
  refine lv_if_ne (tgt := 15) hx hb dX11_peer_10 (by decide) (fun c13 => absurd rfl c13) (fun c13 => ?_)
  refine lv_iconst (v := (-1)) hx hb dX11_peer_13 (by decide) ?_
  exact ret_i (ty := .int) hx hb hr hlocks (rfl) hP hD hS (Nat.le_of_ble_eq_true rfl) (Nat.le_of_ble_eq_true rfl) (rfl) dX11_peer_14

set_option maxHeartbeats 4000000 in
set_option maxRecDepth 100000 in
theorem k_X11_told (l : Launch) (g : GG) (L : List Nat) (f : HP) (sz : Nat) (mo ar1 ar7 ar10 ar11 ar24 ar26 ar27 ar28 ar29 ar30 ar31 ar32 ar33 ar34 ar35 ar41 ar42 ar43 ar44 ar49 ar52 ar54 : Nat) (i : Int32) (p0 : Int32) (w : Int32) (hm_mo : mo ∈ L) (hf_mo : f mo = .inr (10, [.int 0, .ref ar1, .int 0, .int 0, .int 0, .int 0, .int 0, .ref ar7, .int 0, .int 0, .ref ar10, .ref ar11, .int 0, .int 0, .int 0, .int 0, .int 0, .int 0, .int 0, .int 0, .int 0, .long 0, .long 0, .int 0, .ref ar24, .int 0, .ref ar26, .ref ar27, .ref ar28, .ref ar29, .ref ar30, .ref ar31, .ref ar32, .ref ar33, .ref ar34, .ref ar35, .int 0, .int 0, .int 0, .int 0, .int 0, .ref ar41, .ref ar42, .ref ar43, .ref ar44, .long 0, .long 0, .int 0, .int 0, .ref ar49, .int 0, .int 0, .ref ar52, .int 0, .ref ar54, .int 0])) : MtI l g yX11_told cX11_told 4 (some .int) ({ frames := 1, cells := 0, slots := 0, locals := 21 }) [.ref mo, .int i, .int p0, .int w] L f sz (fun r _ => r = (-1)) := by
  refine MtI.of (by decide +kernel) (Nat.le_of_ble_eq_true rfl) ?_
  intro p e s m below meth c A hEn hP hD hS ls hl
  obtain ⟨hx, hb, hr, hml, hown, hlocks, hts, hG, hA, hE, hnm⟩ := hEn
  have hown : s.vm.findClass "RulerWordModel" = some m.cls := hown
  have hl : lv_has ls 4 [(0, .ref mo), (1, .int i), (2, .int p0), (3, .int w)] := hl
  refine lv_aload_n hx hb dX11_told_0 rfl (lv_at hl 0 rfl) ?_
  refine lv_iconst (v := 0) hx hb dX11_told_1 (by decide) ?_
  refine pl_put (ty := .int) (v := .int 0) (fs' := [.int 0, .ref ar1, .int 0, .int 0, .int 0, .int 0, .int 0, .ref ar7, .int 0, .int 0, .ref ar10, .ref ar11, .int 0, .int 0, .int 0, .int 0, .int 0, .int 0, .int 0, .int 0, .int 0, .long 0, .long 0, .int 0, .ref ar24, .int 0, .ref ar26, .ref ar27, .ref ar28, .ref ar29, .ref ar30, .ref ar31, .ref ar32, .ref ar33, .ref ar34, .ref ar35, .int 0, .int 0, .int 0, .int 0, .int 0, .ref ar41, .ref ar42, .ref ar43, .ref ar44, .long 0, .long 0, .int 0, .int 0, .ref ar49, .int 0, .int 0, .ref ar52, .int 0, .ref ar54, .int 0]) hx hb hts (fun w h => mT (inX11 w h)) tyX11 tyX11_ok nmX11 hown hG.1 hP hD hS hm_mo hf_mo rfl 0 (by decide) (hts _ (mT wg_1336)) (fun _ h => h) rfl (by decide +kernel) (rfl) (rfl) (Nat.le_of_ble_eq_true rfl) rfl dX11_told_2 (fun H locs f1 hf3 ho2 hP hD hS => ?_)
  refine lv_aload_n hx hb dX11_told_5 rfl (lv_at hl 0 rfl) ?_
  refine lv_iload_n hx hb dX11_told_6 rfl (lv_at hl 1 rfl) ?_
  refine call_i (run_V (rm := { frames := 0, cells := 0, slots := 0, locals := 0 }) hx hb hml hown hts (k_X11_isPeer l g _ _ _ mo ar1 ar7 ar10 ar11 ar24 ar26 ar27 ar28 ar29 ar30 ar31 ar32 ar33 ar34 ar35 ar41 ar42 ar43 ar44 ar49 ar52 ar54 i hm_mo hf3) cV_X11_isPeer wg_1722 ⟨Nat.le_of_ble_eq_true rfl, Nat.le_of_ble_eq_true rfl⟩ hG hE hA hP hD hS hm_mo hf3 rfl rfl hl.1 (As := [.int i]) (rest := []) rfl (Nat.le_of_ble_eq_true rfl) dX11_told_7 ⟨Nat.le_of_ble_eq_true rfl, Nat.le_of_ble_eq_true rfl⟩) hA hD hS (fun r4 L5 f6 H locs hp7 hP hD hS => ?_)
  obtain ⟨er8, fr9, sb10⟩ := hp7
  have hf12 := (fr9 mo hm_mo ).trans hf3
  have hm11 := sb10 _ hm_mo
  subst er8
  refine lv_if_eq (tgt := 56) hx hb dX11_told_10 (by decide) (fun c13 => ?_) (fun c13 => absurd (by decide) c13)
  refine lv_iconst (v := (-1)) hx hb dX11_told_56 (by decide) ?_
  exact ret_i (ty := .int) hx hb hr hlocks (rfl) hP hD hS (Nat.le_of_ble_eq_true rfl) (Nat.le_of_ble_eq_true rfl) (rfl) dX11_told_57

set_option maxHeartbeats 4000000 in
set_option maxRecDepth 100000 in
theorem k_X11_agreed (l : Launch) (g : GG) (L : List Nat) (f : HP) (sz : Nat) (mo ar1 ar7 ar10 ar11 ar24 ar26 ar27 ar28 ar29 ar30 ar31 ar32 ar33 ar34 ar35 ar41 ar42 ar43 ar44 ar49 ar52 ar54 : Nat) (hm_mo : mo ∈ L) (hf_mo : f mo = .inr (10, [.int 0, .ref ar1, .int 0, .int 0, .int 0, .int 0, .int 0, .ref ar7, .int 0, .int 0, .ref ar10, .ref ar11, .int 0, .int 0, .int 0, .int 0, .int 0, .int 0, .int 0, .int 0, .int 0, .long 0, .long 0, .int 0, .ref ar24, .int 0, .ref ar26, .ref ar27, .ref ar28, .ref ar29, .ref ar30, .ref ar31, .ref ar32, .ref ar33, .ref ar34, .ref ar35, .int 0, .int 0, .int 0, .int 0, .int 0, .ref ar41, .ref ar42, .ref ar43, .ref ar44, .long 0, .long 0, .int 0, .int 0, .ref ar49, .int 0, .int 0, .ref ar52, .int 0, .ref ar54, .int 0])) : MtI l g yX11_agreed cX11_agreed 2 (some .int) ({ frames := 1, cells := 0, slots := 0, locals := 20 }) [.ref mo] L f sz (fun r _ => r = (-1)) := by
  refine MtI.of (by decide +kernel) (Nat.le_of_ble_eq_true rfl) ?_
  intro p e s m below meth c A hEn hP hD hS ls hl
  obtain ⟨hx, hb, hr, hml, hown, hlocks, hts, hG, hA, hE, hnm⟩ := hEn
  have hown : s.vm.findClass "RulerWordModel" = some m.cls := hown
  have hl : lv_has ls 2 [(0, .ref mo)] := hl
  refine lv_aload_n hx hb dX11_agreed_0 rfl (lv_at hl 0 rfl) ?_
  refine lv_iconst (v := 0) hx hb dX11_agreed_1 (by decide) ?_
  refine pl_put (ty := .int) (v := .int 0) (fs' := [.int 0, .ref ar1, .int 0, .int 0, .int 0, .int 0, .int 0, .ref ar7, .int 0, .int 0, .ref ar10, .ref ar11, .int 0, .int 0, .int 0, .int 0, .int 0, .int 0, .int 0, .int 0, .int 0, .long 0, .long 0, .int 0, .ref ar24, .int 0, .ref ar26, .ref ar27, .ref ar28, .ref ar29, .ref ar30, .ref ar31, .ref ar32, .ref ar33, .ref ar34, .ref ar35, .int 0, .int 0, .int 0, .int 0, .int 0, .ref ar41, .ref ar42, .ref ar43, .ref ar44, .long 0, .long 0, .int 0, .int 0, .ref ar49, .int 0, .int 0, .ref ar52, .int 0, .ref ar54, .int 0]) hx hb hts (fun w h => mT (inX11 w h)) tyX11 tyX11_ok nmX11 hown hG.1 hP hD hS hm_mo hf_mo rfl 0 (by decide) (hts _ (mT wg_1336)) (fun _ h => h) rfl (by decide +kernel) (rfl) (rfl) (Nat.le_of_ble_eq_true rfl) rfl dX11_agreed_2 (fun H locs f1 hf3 ho2 hP hD hS => ?_)
  refine lv_aload_n hx hb dX11_agreed_5 rfl (lv_at hl 0 rfl) ?_
  refine call_i (run_V (rm := { frames := 0, cells := 0, slots := 0, locals := 0 }) hx hb hml hown hts (k_X11_over l g _ _ _ mo ar1 ar7 ar10 ar11 ar24 ar26 ar27 ar28 ar29 ar30 ar31 ar32 ar33 ar34 ar35 ar41 ar42 ar43 ar44 ar49 ar52 ar54 hm_mo hf3) cV_X11_over wg_1773 ⟨Nat.le_of_ble_eq_true rfl, Nat.le_of_ble_eq_true rfl⟩ hG hE hA hP hD hS hm_mo hf3 rfl rfl hl.1 (As := []) (rest := []) rfl (Nat.le_of_ble_eq_true rfl) dX11_agreed_6 ⟨Nat.le_of_ble_eq_true rfl, Nat.le_of_ble_eq_true rfl⟩) hA hD hS (fun r4 L5 f6 H locs hp7 hP hD hS => ?_)
  obtain ⟨er8, fr9, sb10⟩ := hp7
  have hf12 := (fr9 mo hm_mo ).trans hf3
  have hm11 := sb10 _ hm_mo
  subst er8
  refine lv_istore_n (lv' := [(1, .int 0), (0, .ref mo)]) hx hb dX11_agreed_9 rfl hl (by decide) rfl (fun ls hl => ?_)
  refine lv_iload_n hx hb dX11_agreed_10 rfl (lv_at hl 0 rfl) ?_
  refine lv_if_le (tgt := 30) hx hb dX11_agreed_11 (by decide) (fun c13 => ?_) (fun c13 => absurd (by decide) c13)
  refine lv_iload_n hx hb dX11_agreed_30 rfl (lv_at hl 0 rfl) ?_
  refine lv_aload_n hx hb dX11_agreed_31 rfl (lv_at hl 1 rfl) ?_
  refine call_i (run_V (rm := { frames := 0, cells := 0, slots := 0, locals := 0 }) hx hb hml hown hts (k_X11_over l g _ _ _ mo ar1 ar7 ar10 ar11 ar24 ar26 ar27 ar28 ar29 ar30 ar31 ar32 ar33 ar34 ar35 ar41 ar42 ar43 ar44 ar49 ar52 ar54 hm11 hf12) cV_X11_over wg_1773 ⟨Nat.le_of_ble_eq_true rfl, Nat.le_of_ble_eq_true rfl⟩ hG hE hA hP hD hS hm11 hf12 rfl rfl hl.1 (As := []) (rest := [.int 0]) rfl (Nat.le_of_ble_eq_true rfl) dX11_agreed_32 ⟨Nat.le_of_ble_eq_true rfl, Nat.le_of_ble_eq_true rfl⟩) hA hD hS (fun r14 L15 f16 H locs hp17 hP hD hS => ?_)
  obtain ⟨er18, fr19, sb20⟩ := hp17
  have hf22 := (fr19 mo hm11 ).trans hf12
  have hm21 := sb20 _ hm11
  subst er18
  refine lv_icmp_ge (tgt := 42) hx hb dX11_agreed_35 (by decide) (fun c23 => ?_) (fun c23 => absurd (by decide) c23)
  refine lv_iconst (v := (-1)) hx hb dX11_agreed_42 (by decide) ?_
  exact ret_i (ty := .int) hx hb hr hlocks (rfl) hP hD hS (Nat.le_of_ble_eq_true rfl) (Nat.le_of_ble_eq_true rfl) (rfl) dX11_agreed_43

set_option maxHeartbeats 4000000 in
set_option maxRecDepth 100000 in
theorem k_X11_state (l : Launch) (g : GG) (L : List Nat) (f : HP) (sz : Nat) (mo ar1 ar7 ar10 ar11 ar24 ar26 ar27 ar28 ar29 ar30 ar31 ar32 ar33 ar34 ar35 ar41 ar42 ar43 ar44 ar49 ar52 ar54 : Nat) (w : Int32) (hm_mo : mo ∈ L) (hf_mo : f mo = .inr (10, [.int 0, .ref ar1, .int 0, .int 0, .int 0, .int 0, .int 0, .ref ar7, .int 0, .int 0, .ref ar10, .ref ar11, .int 0, .int 0, .int 0, .int 0, .int 0, .int 0, .int 0, .int 0, .int 0, .long 0, .long 0, .int 0, .ref ar24, .int 0, .ref ar26, .ref ar27, .ref ar28, .ref ar29, .ref ar30, .ref ar31, .ref ar32, .ref ar33, .ref ar34, .ref ar35, .int 0, .int 0, .int 0, .int 0, .int 0, .ref ar41, .ref ar42, .ref ar43, .ref ar44, .long 0, .long 0, .int 0, .int 0, .ref ar49, .int 0, .int 0, .ref ar52, .int 0, .ref ar54, .int 0])) : MtI l g yX11_state cX11_state 3 (some .int) ({ frames := 0, cells := 0, slots := 0, locals := 0 }) [.ref mo, .int w] L f sz (fun r _ => r = (-1)) := by
  refine MtI.of (by decide +kernel) (Nat.le_of_ble_eq_true rfl) ?_
  intro p e s m below meth c A hEn hP hD hS ls hl
  obtain ⟨hx, hb, hr, hml, hown, hlocks, hts, hG, hA, hE, hnm⟩ := hEn
  have hown : s.vm.findClass "RulerWordModel" = some m.cls := hown
  have hl : lv_has ls 3 [(0, .ref mo), (1, .int w)] := hl
  refine lv_aload_n hx hb dX11_state_0 rfl (lv_at hl 0 rfl) ?_
  refine lv_iconst (v := 0) hx hb dX11_state_1 (by decide) ?_
  refine pl_put (ty := .int) (v := .int 0) (fs' := [.int 0, .ref ar1, .int 0, .int 0, .int 0, .int 0, .int 0, .ref ar7, .int 0, .int 0, .ref ar10, .ref ar11, .int 0, .int 0, .int 0, .int 0, .int 0, .int 0, .int 0, .int 0, .int 0, .long 0, .long 0, .int 0, .ref ar24, .int 0, .ref ar26, .ref ar27, .ref ar28, .ref ar29, .ref ar30, .ref ar31, .ref ar32, .ref ar33, .ref ar34, .ref ar35, .int 0, .int 0, .int 0, .int 0, .int 0, .ref ar41, .ref ar42, .ref ar43, .ref ar44, .long 0, .long 0, .int 0, .int 0, .ref ar49, .int 0, .int 0, .ref ar52, .int 0, .ref ar54, .int 0]) hx hb hts (fun w h => mT (inX11 w h)) tyX11 tyX11_ok nmX11 hown hG.1 hP hD hS hm_mo hf_mo rfl 0 (by decide) (hts _ (mT wg_1336)) (fun _ h => h) rfl (by decide +kernel) (rfl) (rfl) (Nat.le_of_ble_eq_true rfl) rfl dX11_state_2 (fun H locs f1 hf3 ho2 hP hD hS => ?_)
  refine lv_aload_n hx hb dX11_state_5 rfl (lv_at hl 0 rfl) ?_
  refine pl_get (v := .int 0) hx hb hts (fun w h => mT (inX11 w h)) hown hG.1 hP hm_mo hf3 rfl 23 (by decide) (hts _ (mT wg_1359)) (fun _ h => h) rfl dX11_state_6 ?_
  refine lv_if_ne (tgt := 14) hx hb dX11_state_9 (by decide) (fun c4 => absurd rfl c4) (fun c4 => ?_)
  refine lv_iconst (v := (-1)) hx hb dX11_state_12 (by decide) ?_
  exact ret_i (ty := .int) hx hb hr hlocks (rfl) hP hD hS (Nat.le_of_ble_eq_true rfl) (Nat.le_of_ble_eq_true rfl) (rfl) dX11_state_13

set_option maxHeartbeats 4000000 in
set_option maxRecDepth 100000 in
theorem k_X11_letters (l : Launch) (g : GG) (L : List Nat) (f : HP) (sz : Nat) (mo ar1 ar7 ar10 ar11 ar24 ar26 ar27 ar28 ar29 ar30 ar31 ar32 ar33 ar34 ar35 ar41 ar42 ar43 ar44 ar49 ar52 ar54 : Nat) (w : Int32) (hm_mo : mo ∈ L) (hf_mo : f mo = .inr (10, [.int 0, .ref ar1, .int 0, .int 0, .int 0, .int 0, .int 0, .ref ar7, .int 0, .int 0, .ref ar10, .ref ar11, .int 0, .int 0, .int 0, .int 0, .int 0, .int 0, .int 0, .int 0, .int 0, .long 0, .long 0, .int 0, .ref ar24, .int 0, .ref ar26, .ref ar27, .ref ar28, .ref ar29, .ref ar30, .ref ar31, .ref ar32, .ref ar33, .ref ar34, .ref ar35, .int 0, .int 0, .int 0, .int 0, .int 0, .ref ar41, .ref ar42, .ref ar43, .ref ar44, .long 0, .long 0, .int 0, .int 0, .ref ar49, .int 0, .int 0, .ref ar52, .int 0, .ref ar54, .int 0])) : MtI l g yX11_letters cX11_letters 2 (some .int) ({ frames := 0, cells := 0, slots := 0, locals := 0 }) [.ref mo, .int w] L f sz (fun r _ => r = (-1)) := by
  refine MtI.of (by decide +kernel) (Nat.le_of_ble_eq_true rfl) ?_
  intro p e s m below meth c A hEn hP hD hS ls hl
  obtain ⟨hx, hb, hr, hml, hown, hlocks, hts, hG, hA, hE, hnm⟩ := hEn
  have hown : s.vm.findClass "RulerWordModel" = some m.cls := hown
  have hl : lv_has ls 2 [(0, .ref mo), (1, .int w)] := hl
  refine lv_aload_n hx hb dX11_letters_0 rfl (lv_at hl 0 rfl) ?_
  refine lv_iconst (v := 0) hx hb dX11_letters_1 (by decide) ?_
  refine pl_put (ty := .int) (v := .int 0) (fs' := [.int 0, .ref ar1, .int 0, .int 0, .int 0, .int 0, .int 0, .ref ar7, .int 0, .int 0, .ref ar10, .ref ar11, .int 0, .int 0, .int 0, .int 0, .int 0, .int 0, .int 0, .int 0, .int 0, .long 0, .long 0, .int 0, .ref ar24, .int 0, .ref ar26, .ref ar27, .ref ar28, .ref ar29, .ref ar30, .ref ar31, .ref ar32, .ref ar33, .ref ar34, .ref ar35, .int 0, .int 0, .int 0, .int 0, .int 0, .ref ar41, .ref ar42, .ref ar43, .ref ar44, .long 0, .long 0, .int 0, .int 0, .ref ar49, .int 0, .int 0, .ref ar52, .int 0, .ref ar54, .int 0]) hx hb hts (fun w h => mT (inX11 w h)) tyX11 tyX11_ok nmX11 hown hG.1 hP hD hS hm_mo hf_mo rfl 0 (by decide) (hts _ (mT wg_1336)) (fun _ h => h) rfl (by decide +kernel) (rfl) (rfl) (Nat.le_of_ble_eq_true rfl) rfl dX11_letters_2 (fun H locs f1 hf3 ho2 hP hD hS => ?_)
  refine lv_aload_n hx hb dX11_letters_5 rfl (lv_at hl 0 rfl) ?_
  refine pl_get (v := .int 0) hx hb hts (fun w h => mT (inX11 w h)) hown hG.1 hP hm_mo hf3 rfl 23 (by decide) (hts _ (mT wg_1359)) (fun _ h => h) rfl dX11_letters_6 ?_
  refine lv_if_ne (tgt := 14) hx hb dX11_letters_9 (by decide) (fun c4 => absurd rfl c4) (fun c4 => ?_)
  refine lv_iconst (v := (-1)) hx hb dX11_letters_12 (by decide) ?_
  exact ret_i (ty := .int) hx hb hr hlocks (rfl) hP hD hS (Nat.le_of_ble_eq_true rfl) (Nat.le_of_ble_eq_true rfl) (rfl) dX11_letters_13

set_option maxHeartbeats 4000000 in
set_option maxRecDepth 100000 in
theorem k_X11_trueRuler (l : Launch) (g : GG) (L : List Nat) (f : HP) (sz : Nat) (mo ar1 ar7 ar10 ar11 ar24 ar26 ar27 ar28 ar29 ar30 ar31 ar32 ar33 ar34 ar35 ar41 ar42 ar43 ar44 ar49 ar52 ar54 : Nat) (hm_mo : mo ∈ L) (hf_mo : f mo = .inr (10, [.int 0, .ref ar1, .int 0, .int 0, .int 0, .int 0, .int 0, .ref ar7, .int 0, .int 0, .ref ar10, .ref ar11, .int 0, .int 0, .int 0, .int 0, .int 0, .int 0, .int 0, .int 0, .int 0, .long 0, .long 0, .int 0, .ref ar24, .int 0, .ref ar26, .ref ar27, .ref ar28, .ref ar29, .ref ar30, .ref ar31, .ref ar32, .ref ar33, .ref ar34, .ref ar35, .int 0, .int 0, .int 0, .int 0, .int 0, .ref ar41, .ref ar42, .ref ar43, .ref ar44, .long 0, .long 0, .int 0, .int 0, .ref ar49, .int 0, .int 0, .ref ar52, .int 0, .ref ar54, .int 0])) : MtI l g yX11_trueRuler cX11_trueRuler 2 (some .int) ({ frames := 0, cells := 0, slots := 0, locals := 0 }) [.ref mo] L f sz (fun r _ => r = (-1)) := by
  refine MtI.of (by decide +kernel) (Nat.le_of_ble_eq_true rfl) ?_
  intro p e s m below meth c A hEn hP hD hS ls hl
  obtain ⟨hx, hb, hr, hml, hown, hlocks, hts, hG, hA, hE, hnm⟩ := hEn
  have hown : s.vm.findClass "RulerWordModel" = some m.cls := hown
  have hl : lv_has ls 2 [(0, .ref mo)] := hl
  refine lv_aload_n hx hb dX11_trueRuler_0 rfl (lv_at hl 0 rfl) ?_
  refine lv_iconst (v := 0) hx hb dX11_trueRuler_1 (by decide) ?_
  refine pl_put (ty := .int) (v := .int 0) (fs' := [.int 0, .ref ar1, .int 0, .int 0, .int 0, .int 0, .int 0, .ref ar7, .int 0, .int 0, .ref ar10, .ref ar11, .int 0, .int 0, .int 0, .int 0, .int 0, .int 0, .int 0, .int 0, .int 0, .long 0, .long 0, .int 0, .ref ar24, .int 0, .ref ar26, .ref ar27, .ref ar28, .ref ar29, .ref ar30, .ref ar31, .ref ar32, .ref ar33, .ref ar34, .ref ar35, .int 0, .int 0, .int 0, .int 0, .int 0, .ref ar41, .ref ar42, .ref ar43, .ref ar44, .long 0, .long 0, .int 0, .int 0, .ref ar49, .int 0, .int 0, .ref ar52, .int 0, .ref ar54, .int 0]) hx hb hts (fun w h => mT (inX11 w h)) tyX11 tyX11_ok nmX11 hown hG.1 hP hD hS hm_mo hf_mo rfl 0 (by decide) (hts _ (mT wg_1336)) (fun _ h => h) rfl (by decide +kernel) (rfl) (rfl) (Nat.le_of_ble_eq_true rfl) rfl dX11_trueRuler_2 (fun H locs f1 hf3 ho2 hP hD hS => ?_)
  refine lv_iconst (v := 0) hx hb dX11_trueRuler_5 (by decide) ?_
  refine lv_istore_n (lv' := [(1, .int 0), (0, .ref mo)]) hx hb dX11_trueRuler_6 rfl hl (by decide) rfl (fun ls hl => ?_)
  refine lv_iload_n hx hb dX11_trueRuler_7 rfl (lv_at hl 0 rfl) ?_
  refine lv_aload_n hx hb dX11_trueRuler_8 rfl (lv_at hl 1 rfl) ?_
  refine pl_get (v := .int 0) hx hb hts (fun w h => mT (inX11 w h)) hown hG.1 hP hm_mo hf3 rfl 17 (by decide) (hts _ (mT wg_1353)) (fun _ h => h) rfl dX11_trueRuler_9 ?_
  refine lv_icmp_ge (tgt := 43) hx hb dX11_trueRuler_12 (by decide) (fun c4 => ?_) (fun c4 => absurd (by decide) c4)
  refine lv_iconst (v := (-1)) hx hb dX11_trueRuler_43 (by decide) ?_
  exact ret_i (ty := .int) hx hb hr hlocks (rfl) hP hD hS (Nat.le_of_ble_eq_true rfl) (Nat.le_of_ble_eq_true rfl) (rfl) dX11_trueRuler_44

set_option maxHeartbeats 4000000 in
set_option maxRecDepth 100000 in
theorem k_X11_free (l : Launch) (g : GG) (L : List Nat) (f : HP) (sz : Nat) (mo ar1 ar7 ar10 ar11 ar24 ar26 ar27 ar28 ar29 ar30 ar31 ar32 ar33 ar34 ar35 ar41 ar42 ar43 ar44 ar49 ar52 ar54 : Nat) (hm_mo : mo ∈ L) (hf_mo : f mo = .inr (10, [.int 0, .ref ar1, .int 0, .int 0, .int 0, .int 0, .int 0, .ref ar7, .int 0, .int 0, .ref ar10, .ref ar11, .int 0, .int 0, .int 0, .int 0, .int 0, .int 0, .int 0, .int 0, .int 0, .long 0, .long 0, .int 0, .ref ar24, .int 0, .ref ar26, .ref ar27, .ref ar28, .ref ar29, .ref ar30, .ref ar31, .ref ar32, .ref ar33, .ref ar34, .ref ar35, .int 0, .int 0, .int 0, .int 0, .int 0, .ref ar41, .ref ar42, .ref ar43, .ref ar44, .long 0, .long 0, .int 0, .int 0, .ref ar49, .int 0, .int 0, .ref ar52, .int 0, .ref ar54, .int 0])) : MtI l g yX11_free cX11_free 1 (some .int) ({ frames := 0, cells := 0, slots := 0, locals := 0 }) [.ref mo] L f sz (fun r _ => r = (-1)) := by
  refine MtI.of (by decide +kernel) (Nat.le_of_ble_eq_true rfl) ?_
  intro p e s m below meth c A hEn hP hD hS ls hl
  obtain ⟨hx, hb, hr, hml, hown, hlocks, hts, hG, hA, hE, hnm⟩ := hEn
  have hown : s.vm.findClass "RulerWordModel" = some m.cls := hown
  have hl : lv_has ls 1 [(0, .ref mo)] := hl
  refine lv_aload_n hx hb dX11_free_0 rfl (lv_at hl 0 rfl) ?_
  refine lv_iconst (v := 0) hx hb dX11_free_1 (by decide) ?_
  refine pl_put (ty := .int) (v := .int 0) (fs' := [.int 0, .ref ar1, .int 0, .int 0, .int 0, .int 0, .int 0, .ref ar7, .int 0, .int 0, .ref ar10, .ref ar11, .int 0, .int 0, .int 0, .int 0, .int 0, .int 0, .int 0, .int 0, .int 0, .long 0, .long 0, .int 0, .ref ar24, .int 0, .ref ar26, .ref ar27, .ref ar28, .ref ar29, .ref ar30, .ref ar31, .ref ar32, .ref ar33, .ref ar34, .ref ar35, .int 0, .int 0, .int 0, .int 0, .int 0, .ref ar41, .ref ar42, .ref ar43, .ref ar44, .long 0, .long 0, .int 0, .int 0, .ref ar49, .int 0, .int 0, .ref ar52, .int 0, .ref ar54, .int 0]) hx hb hts (fun w h => mT (inX11 w h)) tyX11 tyX11_ok nmX11 hown hG.1 hP hD hS hm_mo hf_mo rfl 0 (by decide) (hts _ (mT wg_1336)) (fun _ h => h) rfl (by decide +kernel) (rfl) (rfl) (Nat.le_of_ble_eq_true rfl) rfl dX11_free_2 (fun H locs f1 hf3 ho2 hP hD hS => ?_)
  refine lv_aload_n hx hb dX11_free_5 rfl (lv_at hl 0 rfl) ?_
  refine pl_get (v := .int 0) hx hb hts (fun w h => mT (inX11 w h)) hown hG.1 hP hm_mo hf3 rfl 23 (by decide) (hts _ (mT wg_1359)) (fun _ h => h) rfl dX11_free_6 ?_
  refine lv_if_ne (tgt := 14) hx hb dX11_free_9 (by decide) (fun c4 => absurd rfl c4) (fun c4 => ?_)
  refine lv_iconst (v := (-1)) hx hb dX11_free_12 (by decide) ?_
  exact ret_i (ty := .int) hx hb hr hlocks (rfl) hP hD hS (Nat.le_of_ble_eq_true rfl) (Nat.le_of_ble_eq_true rfl) (rfl) dX11_free_13

set_option maxHeartbeats 4000000 in
set_option maxRecDepth 100000 in
theorem k_X11_broken (l : Launch) (g : GG) (L : List Nat) (f : HP) (sz : Nat) (mo ar1 ar7 ar10 ar11 ar24 ar26 ar27 ar28 ar29 ar30 ar31 ar32 ar33 ar34 ar35 ar41 ar42 ar43 ar44 ar49 ar52 ar54 : Nat) (hm_mo : mo ∈ L) (hf_mo : f mo = .inr (10, [.int 0, .ref ar1, .int 0, .int 0, .int 0, .int 0, .int 0, .ref ar7, .int 0, .int 0, .ref ar10, .ref ar11, .int 0, .int 0, .int 0, .int 0, .int 0, .int 0, .int 0, .int 0, .int 0, .long 0, .long 0, .int 0, .ref ar24, .int 0, .ref ar26, .ref ar27, .ref ar28, .ref ar29, .ref ar30, .ref ar31, .ref ar32, .ref ar33, .ref ar34, .ref ar35, .int 0, .int 0, .int 0, .int 0, .int 0, .ref ar41, .ref ar42, .ref ar43, .ref ar44, .long 0, .long 0, .int 0, .int 0, .ref ar49, .int 0, .int 0, .ref ar52, .int 0, .ref ar54, .int 0])) : MtI l g yX11_broken cX11_broken 1 (some .int) ({ frames := 1, cells := 0, slots := 0, locals := 20 }) [.ref mo] L f sz (fun r _ => r = (-2)) := by
  refine MtI.of (by decide +kernel) (Nat.le_of_ble_eq_true rfl) ?_
  intro p e s m below meth c A hEn hP hD hS ls hl
  obtain ⟨hx, hb, hr, hml, hown, hlocks, hts, hG, hA, hE, hnm⟩ := hEn
  have hown : s.vm.findClass "RulerWordModel" = some m.cls := hown
  have hl : lv_has ls 1 [(0, .ref mo)] := hl
  refine lv_aload_n hx hb dX11_broken_0 rfl (lv_at hl 0 rfl) ?_
  refine lv_iconst (v := 0) hx hb dX11_broken_1 (by decide) ?_
  refine pl_put (ty := .int) (v := .int 0) (fs' := [.int 0, .ref ar1, .int 0, .int 0, .int 0, .int 0, .int 0, .ref ar7, .int 0, .int 0, .ref ar10, .ref ar11, .int 0, .int 0, .int 0, .int 0, .int 0, .int 0, .int 0, .int 0, .int 0, .long 0, .long 0, .int 0, .ref ar24, .int 0, .ref ar26, .ref ar27, .ref ar28, .ref ar29, .ref ar30, .ref ar31, .ref ar32, .ref ar33, .ref ar34, .ref ar35, .int 0, .int 0, .int 0, .int 0, .int 0, .ref ar41, .ref ar42, .ref ar43, .ref ar44, .long 0, .long 0, .int 0, .int 0, .ref ar49, .int 0, .int 0, .ref ar52, .int 0, .ref ar54, .int 0]) hx hb hts (fun w h => mT (inX11 w h)) tyX11 tyX11_ok nmX11 hown hG.1 hP hD hS hm_mo hf_mo rfl 0 (by decide) (hts _ (mT wg_1336)) (fun _ h => h) rfl (by decide +kernel) (rfl) (rfl) (Nat.le_of_ble_eq_true rfl) rfl dX11_broken_2 (fun H locs f1 hf3 ho2 hP hD hS => ?_)
  refine lv_aload_n hx hb dX11_broken_5 rfl (lv_at hl 0 rfl) ?_
  refine call_i (run_V (rm := { frames := 0, cells := 0, slots := 0, locals := 0 }) hx hb hml hown hts (k_X11_canSearch l g _ _ _ mo ar1 ar7 ar10 ar11 ar24 ar26 ar27 ar28 ar29 ar30 ar31 ar32 ar33 ar34 ar35 ar41 ar42 ar43 ar44 ar49 ar52 ar54 hm_mo hf3) cV_X11_canSearch wg_1838 ⟨Nat.le_of_ble_eq_true rfl, Nat.le_of_ble_eq_true rfl⟩ hG hE hA hP hD hS hm_mo hf3 rfl rfl hl.1 (As := []) (rest := []) rfl (Nat.le_of_ble_eq_true rfl) dX11_broken_6 ⟨Nat.le_of_ble_eq_true rfl, Nat.le_of_ble_eq_true rfl⟩) hA hD hS (fun r4 L5 f6 H locs hp7 hP hD hS => ?_)
  obtain ⟨er8, fr9, sb10⟩ := hp7
  have hf12 := (fr9 mo hm_mo ).trans hf3
  have hm11 := sb10 _ hm_mo
  subst er8
  refine lv_if_eq (tgt := 19) hx hb dX11_broken_9 (by decide) (fun c13 => ?_) (fun c13 => absurd (by decide) c13)
  refine lv_bipush (v := (-2)) hx hb dX11_broken_19 (by decide) ?_
  exact ret_i (ty := .int) hx hb hr hlocks (rfl) hP hD hS (Nat.le_of_ble_eq_true rfl) (Nat.le_of_ble_eq_true rfl) (rfl) dX11_broken_21

set_option maxHeartbeats 4000000 in
set_option maxRecDepth 100000 in
theorem k_X11_brokenStarts (l : Launch) (g : GG) (L : List Nat) (f : HP) (sz : Nat) (mo ar1 ar7 ar10 ar11 ar24 ar26 ar27 ar28 ar29 ar30 ar31 ar32 ar33 ar34 ar35 ar41 ar42 ar43 ar44 ar49 ar52 ar54 : Nat) (w : Int32) (hm_mo : mo ∈ L) (hf_mo : f mo = .inr (10, [.int 0, .ref ar1, .int 0, .int 0, .int 0, .int 0, .int 0, .ref ar7, .int 0, .int 0, .ref ar10, .ref ar11, .int 0, .int 0, .int 0, .int 0, .int 0, .int 0, .int 0, .int 0, .int 0, .long 0, .long 0, .int 0, .ref ar24, .int 0, .ref ar26, .ref ar27, .ref ar28, .ref ar29, .ref ar30, .ref ar31, .ref ar32, .ref ar33, .ref ar34, .ref ar35, .int 0, .int 0, .int 0, .int 0, .int 0, .ref ar41, .ref ar42, .ref ar43, .ref ar44, .long 0, .long 0, .int 0, .int 0, .ref ar49, .int 0, .int 0, .ref ar52, .int 0, .ref ar54, .int 0])) : MtI l g yX11_brokenStarts cX11_brokenStarts 2 (some .int) ({ frames := 1, cells := 0, slots := 0, locals := 25 }) [.ref mo, .int w] L f sz (fun r _ => r = (-2)) := by
  refine MtI.of (by decide +kernel) (Nat.le_of_ble_eq_true rfl) ?_
  intro p e s m below meth c A hEn hP hD hS ls hl
  obtain ⟨hx, hb, hr, hml, hown, hlocks, hts, hG, hA, hE, hnm⟩ := hEn
  have hown : s.vm.findClass "RulerWordModel" = some m.cls := hown
  have hl : lv_has ls 2 [(0, .ref mo), (1, .int w)] := hl
  refine lv_aload_n hx hb dX11_brokenStarts_0 rfl (lv_at hl 0 rfl) ?_
  refine lv_iconst (v := 0) hx hb dX11_brokenStarts_1 (by decide) ?_
  refine pl_put (ty := .int) (v := .int 0) (fs' := [.int 0, .ref ar1, .int 0, .int 0, .int 0, .int 0, .int 0, .ref ar7, .int 0, .int 0, .ref ar10, .ref ar11, .int 0, .int 0, .int 0, .int 0, .int 0, .int 0, .int 0, .int 0, .int 0, .long 0, .long 0, .int 0, .ref ar24, .int 0, .ref ar26, .ref ar27, .ref ar28, .ref ar29, .ref ar30, .ref ar31, .ref ar32, .ref ar33, .ref ar34, .ref ar35, .int 0, .int 0, .int 0, .int 0, .int 0, .ref ar41, .ref ar42, .ref ar43, .ref ar44, .long 0, .long 0, .int 0, .int 0, .ref ar49, .int 0, .int 0, .ref ar52, .int 0, .ref ar54, .int 0]) hx hb hts (fun w h => mT (inX11 w h)) tyX11 tyX11_ok nmX11 hown hG.1 hP hD hS hm_mo hf_mo rfl 0 (by decide) (hts _ (mT wg_1336)) (fun _ h => h) rfl (by decide +kernel) (rfl) (rfl) (Nat.le_of_ble_eq_true rfl) rfl dX11_brokenStarts_2 (fun H locs f1 hf3 ho2 hP hD hS => ?_)
  refine lv_iload_n hx hb dX11_brokenStarts_5 rfl (lv_at hl 1 rfl) ?_
  refine lv_i2l hx hb dX11_brokenStarts_6 rfl ?_
  refine lv_lconst (v := 0) hx hb dX11_brokenStarts_7 (by decide) ?_
  refine lv_lconst (v := 1) hx hb dX11_brokenStarts_8 (by decide) ?_
  refine call_i (run_S (rm := { frames := 0, cells := 0, slots := 0, locals := 0 }) hx hb hml hown hts (k_X11_isIn l g _ _ _ ((w).toInt64) 0 1) cS_X11_isIn wg_1585 ⟨Nat.le_of_ble_eq_true rfl, Nat.le_of_ble_eq_true rfl⟩ hG hE hA hP hD hS rfl hl.1 (As := [.long (w).toInt64, .long 0, .long 1]) (rest := []) rfl (Nat.le_of_ble_eq_true rfl) dX11_brokenStarts_9 ⟨Nat.le_of_ble_eq_true rfl, Nat.le_of_ble_eq_true rfl⟩) hA hD hS (fun r5 L6 f7 H locs hp8 hP hD hS => ?_)
  obtain ⟨er9, fr10, sb11⟩ := hp8
  have hf13 := (fr10 mo hm_mo ).trans hf3
  have hm12 := sb11 _ hm_mo
  refine lv_if_eq (tgt := 22) hx hb dX11_brokenStarts_12 (by decide) (fun c14 => ?_) (fun c14 => ?_)
  ·
    refine lv_bipush (v := (-2)) hx hb dX11_brokenStarts_22 (by decide) ?_
    exact ret_i (ty := .int) hx hb hr hlocks (rfl) hP hD hS (Nat.le_of_ble_eq_true rfl) (Nat.le_of_ble_eq_true rfl) (rfl) dX11_brokenStarts_24
  ·
    refine lv_aload_n hx hb dX11_brokenStarts_15 rfl (lv_at hl 0 rfl) ?_
    refine call_i (run_V (rm := { frames := 0, cells := 0, slots := 0, locals := 0 }) hx hb hml hown hts (k_X11_canSearch l g _ _ _ mo ar1 ar7 ar10 ar11 ar24 ar26 ar27 ar28 ar29 ar30 ar31 ar32 ar33 ar34 ar35 ar41 ar42 ar43 ar44 ar49 ar52 ar54 hm12 hf13) cV_X11_canSearch wg_1838 ⟨Nat.le_of_ble_eq_true rfl, Nat.le_of_ble_eq_true rfl⟩ hG hE hA hP hD hS hm12 hf13 rfl rfl hl.1 (As := []) (rest := []) rfl (Nat.le_of_ble_eq_true rfl) dX11_brokenStarts_16 ⟨Nat.le_of_ble_eq_true rfl, Nat.le_of_ble_eq_true rfl⟩) hA hD hS (fun r15 L16 f17 H locs hp18 hP hD hS => ?_)
    obtain ⟨er19, fr20, sb21⟩ := hp18
    have hf23 := (fr20 mo hm12 ).trans hf13
    have hm22 := sb21 _ hm12
    subst er19
    refine lv_if_ne (tgt := 25) hx hb dX11_brokenStarts_19 (by decide) (fun c24 => absurd rfl c24) (fun c24 => ?_)
    refine lv_bipush (v := (-2)) hx hb dX11_brokenStarts_22 (by decide) ?_
    exact ret_i (ty := .int) hx hb hr hlocks (rfl) hP hD hS (Nat.le_of_ble_eq_true rfl) (Nat.le_of_ble_eq_true rfl) (rfl) dX11_brokenStarts_24

set_option maxHeartbeats 4000000 in
set_option maxRecDepth 100000 in
theorem k_X11_canBreak (l : Launch) (g : GG) (L : List Nat) (f : HP) (sz : Nat) (mo ar1 ar7 ar10 ar11 ar24 ar26 ar27 ar28 ar29 ar30 ar31 ar32 ar33 ar34 ar35 ar41 ar42 ar43 ar44 ar49 ar52 ar54 : Nat) (w : Int32) (hm_mo : mo ∈ L) (hf_mo : f mo = .inr (10, [.int 0, .ref ar1, .int 0, .int 0, .int 0, .int 0, .int 0, .ref ar7, .int 0, .int 0, .ref ar10, .ref ar11, .int 0, .int 0, .int 0, .int 0, .int 0, .int 0, .int 0, .int 0, .int 0, .long 0, .long 0, .int 0, .ref ar24, .int 0, .ref ar26, .ref ar27, .ref ar28, .ref ar29, .ref ar30, .ref ar31, .ref ar32, .ref ar33, .ref ar34, .ref ar35, .int 0, .int 0, .int 0, .int 0, .int 0, .ref ar41, .ref ar42, .ref ar43, .ref ar44, .long 0, .long 0, .int 0, .int 0, .ref ar49, .int 0, .int 0, .ref ar52, .int 0, .ref ar54, .int 0])) : MtI l g yX11_canBreak cX11_canBreak 6 (some .int) ({ frames := 1, cells := 0, slots := 0, locals := 25 }) [.ref mo, .int w] L f sz (fun r _ => r = (-2)) := by
  refine MtI.of (by decide +kernel) (Nat.le_of_ble_eq_true rfl) ?_
  intro p e s m below meth c A hEn hP hD hS ls hl
  obtain ⟨hx, hb, hr, hml, hown, hlocks, hts, hG, hA, hE, hnm⟩ := hEn
  have hown : s.vm.findClass "RulerWordModel" = some m.cls := hown
  have hl : lv_has ls 6 [(0, .ref mo), (1, .int w)] := hl
  refine lv_aload_n hx hb dX11_canBreak_0 rfl (lv_at hl 0 rfl) ?_
  refine lv_iconst (v := 0) hx hb dX11_canBreak_1 (by decide) ?_
  refine pl_put (ty := .int) (v := .int 0) (fs' := [.int 0, .ref ar1, .int 0, .int 0, .int 0, .int 0, .int 0, .ref ar7, .int 0, .int 0, .ref ar10, .ref ar11, .int 0, .int 0, .int 0, .int 0, .int 0, .int 0, .int 0, .int 0, .int 0, .long 0, .long 0, .int 0, .ref ar24, .int 0, .ref ar26, .ref ar27, .ref ar28, .ref ar29, .ref ar30, .ref ar31, .ref ar32, .ref ar33, .ref ar34, .ref ar35, .int 0, .int 0, .int 0, .int 0, .int 0, .ref ar41, .ref ar42, .ref ar43, .ref ar44, .long 0, .long 0, .int 0, .int 0, .ref ar49, .int 0, .int 0, .ref ar52, .int 0, .ref ar54, .int 0]) hx hb hts (fun w h => mT (inX11 w h)) tyX11 tyX11_ok nmX11 hown hG.1 hP hD hS hm_mo hf_mo rfl 0 (by decide) (hts _ (mT wg_1336)) (fun _ h => h) rfl (by decide +kernel) (rfl) (rfl) (Nat.le_of_ble_eq_true rfl) rfl dX11_canBreak_2 (fun H locs f1 hf3 ho2 hP hD hS => ?_)
  refine lv_iload_n hx hb dX11_canBreak_5 rfl (lv_at hl 1 rfl) ?_
  refine lv_i2l hx hb dX11_canBreak_6 rfl ?_
  refine lv_lconst (v := 0) hx hb dX11_canBreak_7 (by decide) ?_
  refine lv_lconst (v := 1) hx hb dX11_canBreak_8 (by decide) ?_
  refine call_i (run_S (rm := { frames := 0, cells := 0, slots := 0, locals := 0 }) hx hb hml hown hts (k_X11_isIn l g _ _ _ ((w).toInt64) 0 1) cS_X11_isIn wg_1585 ⟨Nat.le_of_ble_eq_true rfl, Nat.le_of_ble_eq_true rfl⟩ hG hE hA hP hD hS rfl hl.1 (As := [.long (w).toInt64, .long 0, .long 1]) (rest := []) rfl (Nat.le_of_ble_eq_true rfl) dX11_canBreak_9 ⟨Nat.le_of_ble_eq_true rfl, Nat.le_of_ble_eq_true rfl⟩) hA hD hS (fun r5 L6 f7 H locs hp8 hP hD hS => ?_)
  obtain ⟨er9, fr10, sb11⟩ := hp8
  have hf13 := (fr10 mo hm_mo ).trans hf3
  have hm12 := sb11 _ hm_mo
  refine lv_if_eq (tgt := 30) hx hb dX11_canBreak_12 (by decide) (fun c14 => ?_) (fun c14 => ?_)
  ·
    refine lv_bipush (v := (-2)) hx hb dX11_canBreak_30 (by decide) ?_
    exact ret_i (ty := .int) hx hb hr hlocks (rfl) hP hD hS (Nat.le_of_ble_eq_true rfl) (Nat.le_of_ble_eq_true rfl) (rfl) dX11_canBreak_32
  ·
    refine lv_aload_n hx hb dX11_canBreak_15 rfl (lv_at hl 0 rfl) ?_
    refine pl_get (v := .int 0) hx hb hts (fun w h => mT (inX11 w h)) hown hG.1 hP hm12 hf13 rfl 23 (by decide) (hts _ (mT wg_1359)) (fun _ h => h) rfl dX11_canBreak_16 ?_
    refine lv_if_eq (tgt := 30) hx hb dX11_canBreak_19 (by decide) (fun c15 => ?_) (fun c15 => absurd (by decide) c15)
    refine lv_bipush (v := (-2)) hx hb dX11_canBreak_30 (by decide) ?_
    exact ret_i (ty := .int) hx hb hr hlocks (rfl) hP hD hS (Nat.le_of_ble_eq_true rfl) (Nat.le_of_ble_eq_true rfl) (rfl) dX11_canBreak_32

set_option maxHeartbeats 4000000 in
set_option maxRecDepth 100000 in
theorem k_X11_brokenPlan (l : Launch) (g : GG) (L : List Nat) (f : HP) (sz : Nat) (mo ar1 ar7 ar10 ar11 ar24 ar26 ar27 ar28 ar29 ar30 ar31 ar32 ar33 ar34 ar35 ar41 ar42 ar43 ar44 ar49 ar52 ar54 : Nat) (k : Int32) (hm_mo : mo ∈ L) (hf_mo : f mo = .inr (10, [.int 0, .ref ar1, .int 0, .int 0, .int 0, .int 0, .int 0, .ref ar7, .int 0, .int 0, .ref ar10, .ref ar11, .int 0, .int 0, .int 0, .int 0, .int 0, .int 0, .int 0, .int 0, .int 0, .long 0, .long 0, .int 0, .ref ar24, .int 0, .ref ar26, .ref ar27, .ref ar28, .ref ar29, .ref ar30, .ref ar31, .ref ar32, .ref ar33, .ref ar34, .ref ar35, .int 0, .int 0, .int 0, .int 0, .int 0, .ref ar41, .ref ar42, .ref ar43, .ref ar44, .long 0, .long 0, .int 0, .int 0, .ref ar49, .int 0, .int 0, .ref ar52, .int 0, .ref ar54, .int 0])) : MtI l g yX11_brokenPlan cX11_brokenPlan 3 (some .int) ({ frames := 1, cells := 0, slots := 0, locals := 20 }) [.ref mo, .int k] L f sz (fun r _ => r = (-2)) := by
  refine MtI.of (by decide +kernel) (Nat.le_of_ble_eq_true rfl) ?_
  intro p e s m below meth c A hEn hP hD hS ls hl
  obtain ⟨hx, hb, hr, hml, hown, hlocks, hts, hG, hA, hE, hnm⟩ := hEn
  have hown : s.vm.findClass "RulerWordModel" = some m.cls := hown
  have hl : lv_has ls 3 [(0, .ref mo), (1, .int k)] := hl
  refine lv_aload_n hx hb dX11_brokenPlan_0 rfl (lv_at hl 0 rfl) ?_
  refine lv_iconst (v := 0) hx hb dX11_brokenPlan_1 (by decide) ?_
  refine pl_put (ty := .int) (v := .int 0) (fs' := [.int 0, .ref ar1, .int 0, .int 0, .int 0, .int 0, .int 0, .ref ar7, .int 0, .int 0, .ref ar10, .ref ar11, .int 0, .int 0, .int 0, .int 0, .int 0, .int 0, .int 0, .int 0, .int 0, .long 0, .long 0, .int 0, .ref ar24, .int 0, .ref ar26, .ref ar27, .ref ar28, .ref ar29, .ref ar30, .ref ar31, .ref ar32, .ref ar33, .ref ar34, .ref ar35, .int 0, .int 0, .int 0, .int 0, .int 0, .ref ar41, .ref ar42, .ref ar43, .ref ar44, .long 0, .long 0, .int 0, .int 0, .ref ar49, .int 0, .int 0, .ref ar52, .int 0, .ref ar54, .int 0]) hx hb hts (fun w h => mT (inX11 w h)) tyX11 tyX11_ok nmX11 hown hG.1 hP hD hS hm_mo hf_mo rfl 0 (by decide) (hts _ (mT wg_1336)) (fun _ h => h) rfl (by decide +kernel) (rfl) (rfl) (Nat.le_of_ble_eq_true rfl) rfl dX11_brokenPlan_2 (fun H locs f1 hf3 ho2 hP hD hS => ?_)
  refine lv_aload_n hx hb dX11_brokenPlan_5 rfl (lv_at hl 0 rfl) ?_
  refine call_i (run_V (rm := { frames := 0, cells := 0, slots := 0, locals := 0 }) hx hb hml hown hts (k_X11_canSearch l g _ _ _ mo ar1 ar7 ar10 ar11 ar24 ar26 ar27 ar28 ar29 ar30 ar31 ar32 ar33 ar34 ar35 ar41 ar42 ar43 ar44 ar49 ar52 ar54 hm_mo hf3) cV_X11_canSearch wg_1838 ⟨Nat.le_of_ble_eq_true rfl, Nat.le_of_ble_eq_true rfl⟩ hG hE hA hP hD hS hm_mo hf3 rfl rfl hl.1 (As := []) (rest := []) rfl (Nat.le_of_ble_eq_true rfl) dX11_brokenPlan_6 ⟨Nat.le_of_ble_eq_true rfl, Nat.le_of_ble_eq_true rfl⟩) hA hD hS (fun r4 L5 f6 H locs hp7 hP hD hS => ?_)
  obtain ⟨er8, fr9, sb10⟩ := hp7
  have hf12 := (fr9 mo hm_mo ).trans hf3
  have hm11 := sb10 _ hm_mo
  subst er8
  refine lv_if_ne (tgt := 15) hx hb dX11_brokenPlan_9 (by decide) (fun c13 => absurd rfl c13) (fun c13 => ?_)
  refine lv_bipush (v := (-2)) hx hb dX11_brokenPlan_12 (by decide) ?_
  exact ret_i (ty := .int) hx hb hr hlocks (rfl) hP hD hS (Nat.le_of_ble_eq_true rfl) (Nat.le_of_ble_eq_true rfl) (rfl) dX11_brokenPlan_14

set_option maxHeartbeats 4000000 in
set_option maxRecDepth 100000 in
theorem k_X11_weakest (l : Launch) (g : GG) (L : List Nat) (f : HP) (sz : Nat) (mo ar1 ar7 ar10 ar11 ar24 ar26 ar27 ar28 ar29 ar30 ar31 ar32 ar33 ar34 ar35 ar41 ar42 ar43 ar44 ar49 ar52 ar54 : Nat) (hm_mo : mo ∈ L) (hf_mo : f mo = .inr (10, [.int 0, .ref ar1, .int 0, .int 0, .int 0, .int 0, .int 0, .ref ar7, .int 0, .int 0, .ref ar10, .ref ar11, .int 0, .int 0, .int 0, .int 0, .int 0, .int 0, .int 0, .int 0, .int 0, .long 0, .long 0, .int 0, .ref ar24, .int 0, .ref ar26, .ref ar27, .ref ar28, .ref ar29, .ref ar30, .ref ar31, .ref ar32, .ref ar33, .ref ar34, .ref ar35, .int 0, .int 0, .int 0, .int 0, .int 0, .ref ar41, .ref ar42, .ref ar43, .ref ar44, .long 0, .long 0, .int 0, .int 0, .ref ar49, .int 0, .int 0, .ref ar52, .int 0, .ref ar54, .int 0])) : MtI l g yX11_weakest cX11_weakest 3 (some .int) ({ frames := 0, cells := 0, slots := 0, locals := 0 }) [.ref mo] L f sz (fun r _ => r = (-2)) := by
  refine MtI.of (by decide +kernel) (Nat.le_of_ble_eq_true rfl) ?_
  intro p e s m below meth c A hEn hP hD hS ls hl
  obtain ⟨hx, hb, hr, hml, hown, hlocks, hts, hG, hA, hE, hnm⟩ := hEn
  have hown : s.vm.findClass "RulerWordModel" = some m.cls := hown
  have hl : lv_has ls 3 [(0, .ref mo)] := hl
  refine lv_aload_n hx hb dX11_weakest_0 rfl (lv_at hl 0 rfl) ?_
  refine lv_iconst (v := 0) hx hb dX11_weakest_1 (by decide) ?_
  refine pl_put (ty := .int) (v := .int 0) (fs' := [.int 0, .ref ar1, .int 0, .int 0, .int 0, .int 0, .int 0, .ref ar7, .int 0, .int 0, .ref ar10, .ref ar11, .int 0, .int 0, .int 0, .int 0, .int 0, .int 0, .int 0, .int 0, .int 0, .long 0, .long 0, .int 0, .ref ar24, .int 0, .ref ar26, .ref ar27, .ref ar28, .ref ar29, .ref ar30, .ref ar31, .ref ar32, .ref ar33, .ref ar34, .ref ar35, .int 0, .int 0, .int 0, .int 0, .int 0, .ref ar41, .ref ar42, .ref ar43, .ref ar44, .long 0, .long 0, .int 0, .int 0, .ref ar49, .int 0, .int 0, .ref ar52, .int 0, .ref ar54, .int 0]) hx hb hts (fun w h => mT (inX11 w h)) tyX11 tyX11_ok nmX11 hown hG.1 hP hD hS hm_mo hf_mo rfl 0 (by decide) (hts _ (mT wg_1336)) (fun _ h => h) rfl (by decide +kernel) (rfl) (rfl) (Nat.le_of_ble_eq_true rfl) rfl dX11_weakest_2 (fun H locs f1 hf3 ho2 hP hD hS => ?_)
  refine lv_aload_n hx hb dX11_weakest_5 rfl (lv_at hl 0 rfl) ?_
  refine pl_get (v := .int 0) hx hb hts (fun w h => mT (inX11 w h)) hown hG.1 hP hm_mo hf3 rfl 23 (by decide) (hts _ (mT wg_1359)) (fun _ h => h) rfl dX11_weakest_6 ?_
  refine lv_if_ne (tgt := 15) hx hb dX11_weakest_9 (by decide) (fun c4 => absurd rfl c4) (fun c4 => ?_)
  refine lv_bipush (v := (-2)) hx hb dX11_weakest_12 (by decide) ?_
  exact ret_i (ty := .int) hx hb hr hlocks (rfl) hP hD hS (Nat.le_of_ble_eq_true rfl) (Nat.le_of_ble_eq_true rfl) (rfl) dX11_weakest_14

set_option maxHeartbeats 4000000 in
set_option maxRecDepth 100000 in
theorem k_X11_ruled (l : Launch) (g : GG) (L : List Nat) (f : HP) (sz : Nat) (mo ar1 ar7 ar10 ar11 ar24 ar26 ar27 ar28 ar29 ar30 ar31 ar32 ar33 ar34 ar35 ar41 ar42 ar43 ar44 ar49 ar52 ar54 : Nat) (i : Int32) (w : Int32) (hm_mo : mo ∈ L) (hf_mo : f mo = .inr (10, [.int 0, .ref ar1, .int 0, .int 0, .int 0, .int 0, .int 0, .ref ar7, .int 0, .int 0, .ref ar10, .ref ar11, .int 0, .int 0, .int 0, .int 0, .int 0, .int 0, .int 0, .int 0, .int 0, .long 0, .long 0, .int 0, .ref ar24, .int 0, .ref ar26, .ref ar27, .ref ar28, .ref ar29, .ref ar30, .ref ar31, .ref ar32, .ref ar33, .ref ar34, .ref ar35, .int 0, .int 0, .int 0, .int 0, .int 0, .ref ar41, .ref ar42, .ref ar43, .ref ar44, .long 0, .long 0, .int 0, .int 0, .ref ar49, .int 0, .int 0, .ref ar52, .int 0, .ref ar54, .int 0])) : MtI l g yX11_ruled cX11_ruled 8 (some .int) ({ frames := 1, cells := 0, slots := 0, locals := 21 }) [.ref mo, .int i, .int w] L f sz (fun r _ => r = (-1)) := by
  refine MtI.of (by decide +kernel) (Nat.le_of_ble_eq_true rfl) ?_
  intro p e s m below meth c A hEn hP hD hS ls hl
  obtain ⟨hx, hb, hr, hml, hown, hlocks, hts, hG, hA, hE, hnm⟩ := hEn
  have hown : s.vm.findClass "RulerWordModel" = some m.cls := hown
  have hl : lv_has ls 8 [(0, .ref mo), (1, .int i), (2, .int w)] := hl
  refine lv_aload_n hx hb dX11_ruled_0 rfl (lv_at hl 0 rfl) ?_
  refine lv_iconst (v := 0) hx hb dX11_ruled_1 (by decide) ?_
  refine pl_put (ty := .int) (v := .int 0) (fs' := [.int 0, .ref ar1, .int 0, .int 0, .int 0, .int 0, .int 0, .ref ar7, .int 0, .int 0, .ref ar10, .ref ar11, .int 0, .int 0, .int 0, .int 0, .int 0, .int 0, .int 0, .int 0, .int 0, .long 0, .long 0, .int 0, .ref ar24, .int 0, .ref ar26, .ref ar27, .ref ar28, .ref ar29, .ref ar30, .ref ar31, .ref ar32, .ref ar33, .ref ar34, .ref ar35, .int 0, .int 0, .int 0, .int 0, .int 0, .ref ar41, .ref ar42, .ref ar43, .ref ar44, .long 0, .long 0, .int 0, .int 0, .ref ar49, .int 0, .int 0, .ref ar52, .int 0, .ref ar54, .int 0]) hx hb hts (fun w h => mT (inX11 w h)) tyX11 tyX11_ok nmX11 hown hG.1 hP hD hS hm_mo hf_mo rfl 0 (by decide) (hts _ (mT wg_1336)) (fun _ h => h) rfl (by decide +kernel) (rfl) (rfl) (Nat.le_of_ble_eq_true rfl) rfl dX11_ruled_2 (fun H locs f1 hf3 ho2 hP hD hS => ?_)
  refine lv_aload_n hx hb dX11_ruled_5 rfl (lv_at hl 0 rfl) ?_
  refine lv_iload_n hx hb dX11_ruled_6 rfl (lv_at hl 1 rfl) ?_
  refine call_i (run_V (rm := { frames := 0, cells := 0, slots := 0, locals := 0 }) hx hb hml hown hts (k_X11_isPeer l g _ _ _ mo ar1 ar7 ar10 ar11 ar24 ar26 ar27 ar28 ar29 ar30 ar31 ar32 ar33 ar34 ar35 ar41 ar42 ar43 ar44 ar49 ar52 ar54 i hm_mo hf3) cV_X11_isPeer wg_1722 ⟨Nat.le_of_ble_eq_true rfl, Nat.le_of_ble_eq_true rfl⟩ hG hE hA hP hD hS hm_mo hf3 rfl rfl hl.1 (As := [.int i]) (rest := []) rfl (Nat.le_of_ble_eq_true rfl) dX11_ruled_7 ⟨Nat.le_of_ble_eq_true rfl, Nat.le_of_ble_eq_true rfl⟩) hA hD hS (fun r4 L5 f6 H locs hp7 hP hD hS => ?_)
  obtain ⟨er8, fr9, sb10⟩ := hp7
  have hf12 := (fr9 mo hm_mo ).trans hf3
  have hm11 := sb10 _ hm_mo
  subst er8
  refine lv_if_eq (tgt := 25) hx hb dX11_ruled_10 (by decide) (fun c13 => ?_) (fun c13 => absurd (by decide) c13)
  refine lv_iconst (v := (-1)) hx hb dX11_ruled_25 (by decide) ?_
  exact ret_i (ty := .int) hx hb hr hlocks (rfl) hP hD hS (Nat.le_of_ble_eq_true rfl) (Nat.le_of_ble_eq_true rfl) (rfl) dX11_ruled_26

set_option maxHeartbeats 4000000 in
set_option maxRecDepth 100000 in
theorem k_X11_held (l : Launch) (g : GG) (L : List Nat) (f : HP) (sz : Nat) (mo ar1 ar7 ar10 ar11 ar24 ar26 ar27 ar28 ar29 ar30 ar31 ar32 ar33 ar34 ar35 ar41 ar42 ar43 ar44 ar49 ar52 ar54 : Nat) (b : Int32) (i : Int32) (hm_mo : mo ∈ L) (hf_mo : f mo = .inr (10, [.int 0, .ref ar1, .int 0, .int 0, .int 0, .int 0, .int 0, .ref ar7, .int 0, .int 0, .ref ar10, .ref ar11, .int 0, .int 0, .int 0, .int 0, .int 0, .int 0, .int 0, .int 0, .int 0, .long 0, .long 0, .int 0, .ref ar24, .int 0, .ref ar26, .ref ar27, .ref ar28, .ref ar29, .ref ar30, .ref ar31, .ref ar32, .ref ar33, .ref ar34, .ref ar35, .int 0, .int 0, .int 0, .int 0, .int 0, .ref ar41, .ref ar42, .ref ar43, .ref ar44, .long 0, .long 0, .int 0, .int 0, .ref ar49, .int 0, .int 0, .ref ar52, .int 0, .ref ar54, .int 0])) : MtI l g yX11_held cX11_held 3 (some .int) ({ frames := 1, cells := 0, slots := 0, locals := 20 }) [.ref mo, .int b, .int i] L f sz (fun r _ => r = (-2)) := by
  refine MtI.of (by decide +kernel) (Nat.le_of_ble_eq_true rfl) ?_
  intro p e s m below meth c A hEn hP hD hS ls hl
  obtain ⟨hx, hb, hr, hml, hown, hlocks, hts, hG, hA, hE, hnm⟩ := hEn
  have hown : s.vm.findClass "RulerWordModel" = some m.cls := hown
  have hl : lv_has ls 3 [(0, .ref mo), (1, .int b), (2, .int i)] := hl
  refine lv_aload_n hx hb dX11_held_0 rfl (lv_at hl 0 rfl) ?_
  refine lv_iconst (v := 0) hx hb dX11_held_1 (by decide) ?_
  refine pl_put (ty := .int) (v := .int 0) (fs' := [.int 0, .ref ar1, .int 0, .int 0, .int 0, .int 0, .int 0, .ref ar7, .int 0, .int 0, .ref ar10, .ref ar11, .int 0, .int 0, .int 0, .int 0, .int 0, .int 0, .int 0, .int 0, .int 0, .long 0, .long 0, .int 0, .ref ar24, .int 0, .ref ar26, .ref ar27, .ref ar28, .ref ar29, .ref ar30, .ref ar31, .ref ar32, .ref ar33, .ref ar34, .ref ar35, .int 0, .int 0, .int 0, .int 0, .int 0, .ref ar41, .ref ar42, .ref ar43, .ref ar44, .long 0, .long 0, .int 0, .int 0, .ref ar49, .int 0, .int 0, .ref ar52, .int 0, .ref ar54, .int 0]) hx hb hts (fun w h => mT (inX11 w h)) tyX11 tyX11_ok nmX11 hown hG.1 hP hD hS hm_mo hf_mo rfl 0 (by decide) (hts _ (mT wg_1336)) (fun _ h => h) rfl (by decide +kernel) (rfl) (rfl) (Nat.le_of_ble_eq_true rfl) rfl dX11_held_2 (fun H locs f1 hf3 ho2 hP hD hS => ?_)
  refine lv_aload_n hx hb dX11_held_5 rfl (lv_at hl 0 rfl) ?_
  refine call_i (run_V (rm := { frames := 0, cells := 0, slots := 0, locals := 0 }) hx hb hml hown hts (k_X11_canSearch l g _ _ _ mo ar1 ar7 ar10 ar11 ar24 ar26 ar27 ar28 ar29 ar30 ar31 ar32 ar33 ar34 ar35 ar41 ar42 ar43 ar44 ar49 ar52 ar54 hm_mo hf3) cV_X11_canSearch wg_1838 ⟨Nat.le_of_ble_eq_true rfl, Nat.le_of_ble_eq_true rfl⟩ hG hE hA hP hD hS hm_mo hf3 rfl rfl hl.1 (As := []) (rest := []) rfl (Nat.le_of_ble_eq_true rfl) dX11_held_6 ⟨Nat.le_of_ble_eq_true rfl, Nat.le_of_ble_eq_true rfl⟩) hA hD hS (fun r4 L5 f6 H locs hp7 hP hD hS => ?_)
  obtain ⟨er8, fr9, sb10⟩ := hp7
  have hf12 := (fr9 mo hm_mo ).trans hf3
  have hm11 := sb10 _ hm_mo
  subst er8
  refine lv_if_ne (tgt := 15) hx hb dX11_held_9 (by decide) (fun c13 => absurd rfl c13) (fun c13 => ?_)
  refine lv_bipush (v := (-2)) hx hb dX11_held_12 (by decide) ?_
  exact ret_i (ty := .int) hx hb hr hlocks (rfl) hP hD hS (Nat.le_of_ble_eq_true rfl) (Nat.le_of_ble_eq_true rfl) (rfl) dX11_held_14

set_option maxHeartbeats 4000000 in
set_option maxRecDepth 100000 in
theorem k_X11_needed (l : Launch) (g : GG) (L : List Nat) (f : HP) (sz : Nat) (mo ar1 ar7 ar10 ar11 ar24 ar26 ar27 ar28 ar29 ar30 ar31 ar32 ar33 ar34 ar35 ar41 ar42 ar43 ar44 ar49 ar52 ar54 : Nat) (hm_mo : mo ∈ L) (hf_mo : f mo = .inr (10, [.int 0, .ref ar1, .int 0, .int 0, .int 0, .int 0, .int 0, .ref ar7, .int 0, .int 0, .ref ar10, .ref ar11, .int 0, .int 0, .int 0, .int 0, .int 0, .int 0, .int 0, .int 0, .int 0, .long 0, .long 0, .int 0, .ref ar24, .int 0, .ref ar26, .ref ar27, .ref ar28, .ref ar29, .ref ar30, .ref ar31, .ref ar32, .ref ar33, .ref ar34, .ref ar35, .int 0, .int 0, .int 0, .int 0, .int 0, .ref ar41, .ref ar42, .ref ar43, .ref ar44, .long 0, .long 0, .int 0, .int 0, .ref ar49, .int 0, .int 0, .ref ar52, .int 0, .ref ar54, .int 0])) : MtI l g yX11_needed cX11_needed 4 (some .int) ({ frames := 0, cells := 0, slots := 0, locals := 0 }) [.ref mo] L f sz (fun r _ => r = (-1)) := by
  refine MtI.of (by decide +kernel) (Nat.le_of_ble_eq_true rfl) ?_
  intro p e s m below meth c A hEn hP hD hS ls hl
  obtain ⟨hx, hb, hr, hml, hown, hlocks, hts, hG, hA, hE, hnm⟩ := hEn
  have hown : s.vm.findClass "RulerWordModel" = some m.cls := hown
  have hl : lv_has ls 4 [(0, .ref mo)] := hl
  refine lv_aload_n hx hb dX11_needed_0 rfl (lv_at hl 0 rfl) ?_
  refine lv_iconst (v := 0) hx hb dX11_needed_1 (by decide) ?_
  refine pl_put (ty := .int) (v := .int 0) (fs' := [.int 0, .ref ar1, .int 0, .int 0, .int 0, .int 0, .int 0, .ref ar7, .int 0, .int 0, .ref ar10, .ref ar11, .int 0, .int 0, .int 0, .int 0, .int 0, .int 0, .int 0, .int 0, .int 0, .long 0, .long 0, .int 0, .ref ar24, .int 0, .ref ar26, .ref ar27, .ref ar28, .ref ar29, .ref ar30, .ref ar31, .ref ar32, .ref ar33, .ref ar34, .ref ar35, .int 0, .int 0, .int 0, .int 0, .int 0, .ref ar41, .ref ar42, .ref ar43, .ref ar44, .long 0, .long 0, .int 0, .int 0, .ref ar49, .int 0, .int 0, .ref ar52, .int 0, .ref ar54, .int 0]) hx hb hts (fun w h => mT (inX11 w h)) tyX11 tyX11_ok nmX11 hown hG.1 hP hD hS hm_mo hf_mo rfl 0 (by decide) (hts _ (mT wg_1336)) (fun _ h => h) rfl (by decide +kernel) (rfl) (rfl) (Nat.le_of_ble_eq_true rfl) rfl dX11_needed_2 (fun H locs f1 hf3 ho2 hP hD hS => ?_)
  refine lv_aload_n hx hb dX11_needed_5 rfl (lv_at hl 0 rfl) ?_
  refine pl_get (v := .int 0) hx hb hts (fun w h => mT (inX11 w h)) hown hG.1 hP hm_mo hf3 rfl 23 (by decide) (hts _ (mT wg_1359)) (fun _ h => h) rfl dX11_needed_6 ?_
  refine lv_if_ne (tgt := 14) hx hb dX11_needed_9 (by decide) (fun c4 => absurd rfl c4) (fun c4 => ?_)
  refine lv_iconst (v := (-1)) hx hb dX11_needed_12 (by decide) ?_
  exact ret_i (ty := .int) hx hb hr hlocks (rfl) hP hD hS (Nat.le_of_ble_eq_true rfl) (Nat.le_of_ble_eq_true rfl) (rfl) dX11_needed_13

set_option maxHeartbeats 4000000 in
set_option maxRecDepth 100000 in
theorem k_X11_asOthers (l : Launch) (g : GG) (L : List Nat) (f : HP) (sz : Nat) (mo ar1 ar7 ar10 ar11 ar24 ar26 ar27 ar28 ar29 ar30 ar31 ar32 ar33 ar34 ar35 ar41 ar42 ar43 ar44 ar49 ar52 ar54 : Nat) (w : Int32) (hm_mo : mo ∈ L) (hf_mo : f mo = .inr (10, [.int 0, .ref ar1, .int 0, .int 0, .int 0, .int 0, .int 0, .ref ar7, .int 0, .int 0, .ref ar10, .ref ar11, .int 0, .int 0, .int 0, .int 0, .int 0, .int 0, .int 0, .int 0, .int 0, .long 0, .long 0, .int 0, .ref ar24, .int 0, .ref ar26, .ref ar27, .ref ar28, .ref ar29, .ref ar30, .ref ar31, .ref ar32, .ref ar33, .ref ar34, .ref ar35, .int 0, .int 0, .int 0, .int 0, .int 0, .ref ar41, .ref ar42, .ref ar43, .ref ar44, .long 0, .long 0, .int 0, .int 0, .ref ar49, .int 0, .int 0, .ref ar52, .int 0, .ref ar54, .int 0])) : MtI l g yX11_asOthers cX11_asOthers 6 (some .int) ({ frames := 0, cells := 0, slots := 0, locals := 0 }) [.ref mo, .int w] L f sz (fun r _ => r = (-2)) := by
  refine MtI.of (by decide +kernel) (Nat.le_of_ble_eq_true rfl) ?_
  intro p e s m below meth c A hEn hP hD hS ls hl
  obtain ⟨hx, hb, hr, hml, hown, hlocks, hts, hG, hA, hE, hnm⟩ := hEn
  have hown : s.vm.findClass "RulerWordModel" = some m.cls := hown
  have hl : lv_has ls 6 [(0, .ref mo), (1, .int w)] := hl
  refine lv_aload_n hx hb dX11_asOthers_0 rfl (lv_at hl 0 rfl) ?_
  refine lv_iconst (v := 0) hx hb dX11_asOthers_1 (by decide) ?_
  refine pl_put (ty := .int) (v := .int 0) (fs' := [.int 0, .ref ar1, .int 0, .int 0, .int 0, .int 0, .int 0, .ref ar7, .int 0, .int 0, .ref ar10, .ref ar11, .int 0, .int 0, .int 0, .int 0, .int 0, .int 0, .int 0, .int 0, .int 0, .long 0, .long 0, .int 0, .ref ar24, .int 0, .ref ar26, .ref ar27, .ref ar28, .ref ar29, .ref ar30, .ref ar31, .ref ar32, .ref ar33, .ref ar34, .ref ar35, .int 0, .int 0, .int 0, .int 0, .int 0, .ref ar41, .ref ar42, .ref ar43, .ref ar44, .long 0, .long 0, .int 0, .int 0, .ref ar49, .int 0, .int 0, .ref ar52, .int 0, .ref ar54, .int 0]) hx hb hts (fun w h => mT (inX11 w h)) tyX11 tyX11_ok nmX11 hown hG.1 hP hD hS hm_mo hf_mo rfl 0 (by decide) (hts _ (mT wg_1336)) (fun _ h => h) rfl (by decide +kernel) (rfl) (rfl) (Nat.le_of_ble_eq_true rfl) rfl dX11_asOthers_2 (fun H locs f1 hf3 ho2 hP hD hS => ?_)
  refine lv_aload_n hx hb dX11_asOthers_5 rfl (lv_at hl 0 rfl) ?_
  refine pl_get (v := .int 0) hx hb hts (fun w h => mT (inX11 w h)) hown hG.1 hP hm_mo hf3 rfl 23 (by decide) (hts _ (mT wg_1359)) (fun _ h => h) rfl dX11_asOthers_6 ?_
  refine lv_if_eq (tgt := 24) hx hb dX11_asOthers_9 (by decide) (fun c4 => ?_) (fun c4 => absurd (by decide) c4)
  refine lv_bipush (v := (-2)) hx hb dX11_asOthers_24 (by decide) ?_
  exact ret_i (ty := .int) hx hb hr hlocks (rfl) hP hD hS (Nat.le_of_ble_eq_true rfl) (Nat.le_of_ble_eq_true rfl) (rfl) dX11_asOthers_26

set_option maxHeartbeats 4000000 in
set_option maxRecDepth 100000 in
theorem k_X11_byChance (l : Launch) (g : GG) (L : List Nat) (f : HP) (sz : Nat) (mo ar1 ar7 ar10 ar11 ar24 ar26 ar27 ar28 ar29 ar30 ar31 ar32 ar33 ar34 ar35 ar41 ar42 ar43 ar44 ar49 ar52 ar54 : Nat) (w : Int32) (s0 : Int64) (h0 : Int32) (hm_mo : mo ∈ L) (hf_mo : f mo = .inr (10, [.int 0, .ref ar1, .int 0, .int 0, .int 0, .int 0, .int 0, .ref ar7, .int 0, .int 0, .ref ar10, .ref ar11, .int 0, .int 0, .int 0, .int 0, .int 0, .int 0, .int 0, .int 0, .int 0, .long 0, .long 0, .int 0, .ref ar24, .int 0, .ref ar26, .ref ar27, .ref ar28, .ref ar29, .ref ar30, .ref ar31, .ref ar32, .ref ar33, .ref ar34, .ref ar35, .int 0, .int 0, .int 0, .int 0, .int 0, .ref ar41, .ref ar42, .ref ar43, .ref ar44, .long 0, .long 0, .int 0, .int 0, .ref ar49, .int 0, .int 0, .ref ar52, .int 0, .ref ar54, .int 0])) : MtI l g yX11_byChance cX11_byChance 14 (some .int) ({ frames := 0, cells := 0, slots := 0, locals := 0 }) [.ref mo, .int w, .long s0, .int h0] L f sz (fun r _ => r = (-2)) := by
  refine MtI.of (by decide +kernel) (Nat.le_of_ble_eq_true rfl) ?_
  intro p e s m below meth c A hEn hP hD hS ls hl
  obtain ⟨hx, hb, hr, hml, hown, hlocks, hts, hG, hA, hE, hnm⟩ := hEn
  have hown : s.vm.findClass "RulerWordModel" = some m.cls := hown
  have hl : lv_has ls 14 [(0, .ref mo), (1, .int w), (2, .long s0), (4, .int h0)] := hl
  refine lv_aload_n hx hb dX11_byChance_0 rfl (lv_at hl 0 rfl) ?_
  refine lv_iconst (v := 0) hx hb dX11_byChance_1 (by decide) ?_
  refine pl_put (ty := .int) (v := .int 0) (fs' := [.int 0, .ref ar1, .int 0, .int 0, .int 0, .int 0, .int 0, .ref ar7, .int 0, .int 0, .ref ar10, .ref ar11, .int 0, .int 0, .int 0, .int 0, .int 0, .int 0, .int 0, .int 0, .int 0, .long 0, .long 0, .int 0, .ref ar24, .int 0, .ref ar26, .ref ar27, .ref ar28, .ref ar29, .ref ar30, .ref ar31, .ref ar32, .ref ar33, .ref ar34, .ref ar35, .int 0, .int 0, .int 0, .int 0, .int 0, .ref ar41, .ref ar42, .ref ar43, .ref ar44, .long 0, .long 0, .int 0, .int 0, .ref ar49, .int 0, .int 0, .ref ar52, .int 0, .ref ar54, .int 0]) hx hb hts (fun w h => mT (inX11 w h)) tyX11 tyX11_ok nmX11 hown hG.1 hP hD hS hm_mo hf_mo rfl 0 (by decide) (hts _ (mT wg_1336)) (fun _ h => h) rfl (by decide +kernel) (rfl) (rfl) (Nat.le_of_ble_eq_true rfl) rfl dX11_byChance_2 (fun H locs f1 hf3 ho2 hP hD hS => ?_)
  refine lv_aload_n hx hb dX11_byChance_5 rfl (lv_at hl 0 rfl) ?_
  refine pl_get (v := .int 0) hx hb hts (fun w h => mT (inX11 w h)) hown hG.1 hP hm_mo hf3 rfl 23 (by decide) (hts _ (mT wg_1359)) (fun _ h => h) rfl dX11_byChance_6 ?_
  refine lv_if_eq (tgt := 37) hx hb dX11_byChance_9 (by decide) (fun c4 => ?_) (fun c4 => absurd (by decide) c4)
  refine lv_bipush (v := (-2)) hx hb dX11_byChance_37 (by decide) ?_
  exact ret_i (ty := .int) hx hb hr hlocks (rfl) hP hD hS (Nat.le_of_ble_eq_true rfl) (Nat.le_of_ble_eq_true rfl) (rfl) dX11_byChance_39

set_option maxHeartbeats 4000000 in
set_option maxRecDepth 100000 in
theorem k_X11_undo (l : Launch) (g : GG) (L : List Nat) (f : HP) (sz : Nat) (mo ar1 ar7 ar10 ar11 ar24 ar26 ar27 ar28 ar29 ar30 ar31 ar32 ar33 ar34 ar35 ar41 ar42 ar43 ar44 ar49 ar52 ar54 : Nat) (hm_mo : mo ∈ L) (hf_mo : f mo = .inr (10, [.int 0, .ref ar1, .int 0, .int 0, .int 0, .int 0, .int 0, .ref ar7, .int 0, .int 0, .ref ar10, .ref ar11, .int 0, .int 0, .int 0, .int 0, .int 0, .int 0, .int 0, .int 0, .int 0, .long 0, .long 0, .int 0, .ref ar24, .int 0, .ref ar26, .ref ar27, .ref ar28, .ref ar29, .ref ar30, .ref ar31, .ref ar32, .ref ar33, .ref ar34, .ref ar35, .int 0, .int 0, .int 0, .int 0, .int 0, .ref ar41, .ref ar42, .ref ar43, .ref ar44, .long 0, .long 0, .int 0, .int 0, .ref ar49, .int 0, .int 0, .ref ar52, .int 0, .ref ar54, .int 0])) : MtI l g yX11_undo cX11_undo 2 (some .int) ({ frames := 0, cells := 0, slots := 0, locals := 0 }) [.ref mo] L f sz (fun r _ => r = (-1)) := by
  refine MtI.of (by decide +kernel) (Nat.le_of_ble_eq_true rfl) ?_
  intro p e s m below meth c A hEn hP hD hS ls hl
  obtain ⟨hx, hb, hr, hml, hown, hlocks, hts, hG, hA, hE, hnm⟩ := hEn
  have hown : s.vm.findClass "RulerWordModel" = some m.cls := hown
  have hl : lv_has ls 2 [(0, .ref mo)] := hl
  refine lv_aload_n hx hb dX11_undo_0 rfl (lv_at hl 0 rfl) ?_
  refine lv_iconst (v := 0) hx hb dX11_undo_1 (by decide) ?_
  refine pl_put (ty := .int) (v := .int 0) (fs' := [.int 0, .ref ar1, .int 0, .int 0, .int 0, .int 0, .int 0, .ref ar7, .int 0, .int 0, .ref ar10, .ref ar11, .int 0, .int 0, .int 0, .int 0, .int 0, .int 0, .int 0, .int 0, .int 0, .long 0, .long 0, .int 0, .ref ar24, .int 0, .ref ar26, .ref ar27, .ref ar28, .ref ar29, .ref ar30, .ref ar31, .ref ar32, .ref ar33, .ref ar34, .ref ar35, .int 0, .int 0, .int 0, .int 0, .int 0, .ref ar41, .ref ar42, .ref ar43, .ref ar44, .long 0, .long 0, .int 0, .int 0, .ref ar49, .int 0, .int 0, .ref ar52, .int 0, .ref ar54, .int 0]) hx hb hts (fun w h => mT (inX11 w h)) tyX11 tyX11_ok nmX11 hown hG.1 hP hD hS hm_mo hf_mo rfl 0 (by decide) (hts _ (mT wg_1336)) (fun _ h => h) rfl (by decide +kernel) (rfl) (rfl) (Nat.le_of_ble_eq_true rfl) rfl dX11_undo_2 (fun H locs f1 hf3 ho2 hP hD hS => ?_)
  refine lv_aload_n hx hb dX11_undo_5 rfl (lv_at hl 0 rfl) ?_
  refine pl_get (v := .int 0) hx hb hts (fun w h => mT (inX11 w h)) hown hG.1 hP hm_mo hf3 rfl 47 (by decide) (hts _ (mT wg_1383)) (fun _ h => h) rfl dX11_undo_6 ?_
  refine lv_if_ne (tgt := 14) hx hb dX11_undo_9 (by decide) (fun c4 => absurd rfl c4) (fun c4 => ?_)
  refine lv_iconst (v := (-1)) hx hb dX11_undo_12 (by decide) ?_
  exact ret_i (ty := .int) hx hb hr hlocks (rfl) hP hD hS (Nat.le_of_ble_eq_true rfl) (Nat.le_of_ble_eq_true rfl) (rfl) dX11_undo_13

set_option maxHeartbeats 4000000 in
set_option maxRecDepth 100000 in
theorem k_X11_image (l : Launch) (g : GG) (L : List Nat) (f : HP) (sz : Nat) (mo ar1 ar7 ar10 ar11 ar24 ar26 ar27 ar28 ar29 ar30 ar31 ar32 ar33 ar34 ar35 ar41 ar42 ar43 ar44 ar49 ar52 ar54 : Nat) (hm_mo : mo ∈ L) (hf_mo : f mo = .inr (10, [.int 0, .ref ar1, .int 0, .int 0, .int 0, .int 0, .int 0, .ref ar7, .int 0, .int 0, .ref ar10, .ref ar11, .int 0, .int 0, .int 0, .int 0, .int 0, .int 0, .int 0, .int 0, .int 0, .long 0, .long 0, .int 0, .ref ar24, .int 0, .ref ar26, .ref ar27, .ref ar28, .ref ar29, .ref ar30, .ref ar31, .ref ar32, .ref ar33, .ref ar34, .ref ar35, .int 0, .int 0, .int 0, .int 0, .int 0, .ref ar41, .ref ar42, .ref ar43, .ref ar44, .long 0, .long 0, .int 0, .int 0, .ref ar49, .int 0, .int 0, .ref ar52, .int 0, .ref ar54, .int 0])) : MtI l g yX11_image cX11_image 2 (some .int) ({ frames := 0, cells := 0, slots := 0, locals := 0 }) [.ref mo] L f sz (fun r _ => r = (-1)) := by
  refine MtI.of (by decide +kernel) (Nat.le_of_ble_eq_true rfl) ?_
  intro p e s m below meth c A hEn hP hD hS ls hl
  obtain ⟨hx, hb, hr, hml, hown, hlocks, hts, hG, hA, hE, hnm⟩ := hEn
  have hown : s.vm.findClass "RulerWordModel" = some m.cls := hown
  have hl : lv_has ls 2 [(0, .ref mo)] := hl
  refine lv_aload_n hx hb dX11_image_0 rfl (lv_at hl 0 rfl) ?_
  refine lv_iconst (v := 0) hx hb dX11_image_1 (by decide) ?_
  refine pl_put (ty := .int) (v := .int 0) (fs' := [.int 0, .ref ar1, .int 0, .int 0, .int 0, .int 0, .int 0, .ref ar7, .int 0, .int 0, .ref ar10, .ref ar11, .int 0, .int 0, .int 0, .int 0, .int 0, .int 0, .int 0, .int 0, .int 0, .long 0, .long 0, .int 0, .ref ar24, .int 0, .ref ar26, .ref ar27, .ref ar28, .ref ar29, .ref ar30, .ref ar31, .ref ar32, .ref ar33, .ref ar34, .ref ar35, .int 0, .int 0, .int 0, .int 0, .int 0, .ref ar41, .ref ar42, .ref ar43, .ref ar44, .long 0, .long 0, .int 0, .int 0, .ref ar49, .int 0, .int 0, .ref ar52, .int 0, .ref ar54, .int 0]) hx hb hts (fun w h => mT (inX11 w h)) tyX11 tyX11_ok nmX11 hown hG.1 hP hD hS hm_mo hf_mo rfl 0 (by decide) (hts _ (mT wg_1336)) (fun _ h => h) rfl (by decide +kernel) (rfl) (rfl) (Nat.le_of_ble_eq_true rfl) rfl dX11_image_2 (fun H locs f1 hf3 ho2 hP hD hS => ?_)
  refine lv_aload_n hx hb dX11_image_5 rfl (lv_at hl 0 rfl) ?_
  refine pl_get (v := .int 0) hx hb hts (fun w h => mT (inX11 w h)) hown hG.1 hP hm_mo hf3 rfl 23 (by decide) (hts _ (mT wg_1359)) (fun _ h => h) rfl dX11_image_6 ?_
  refine lv_if_ne (tgt := 14) hx hb dX11_image_9 (by decide) (fun c4 => absurd rfl c4) (fun c4 => ?_)
  refine lv_iconst (v := (-1)) hx hb dX11_image_12 (by decide) ?_
  exact ret_i (ty := .int) hx hb hr hlocks (rfl) hP hD hS (Nat.le_of_ble_eq_true rfl) (Nat.le_of_ble_eq_true rfl) (rfl) dX11_image_13

set_option maxHeartbeats 4000000 in
set_option maxRecDepth 100000 in
theorem k_X11_back (l : Launch) (g : GG) (L : List Nat) (f : HP) (sz : Nat) (mo ar1 ar7 ar10 ar11 ar24 ar26 ar27 ar28 ar29 ar30 ar31 ar32 ar33 ar34 ar35 ar41 ar42 ar43 ar44 ar49 ar52 ar54 : Nat) (hm_mo : mo ∈ L) (hf_mo : f mo = .inr (10, [.int 0, .ref ar1, .int 0, .int 0, .int 0, .int 0, .int 0, .ref ar7, .int 0, .int 0, .ref ar10, .ref ar11, .int 0, .int 0, .int 0, .int 0, .int 0, .int 0, .int 0, .int 0, .int 0, .long 0, .long 0, .int 0, .ref ar24, .int 0, .ref ar26, .ref ar27, .ref ar28, .ref ar29, .ref ar30, .ref ar31, .ref ar32, .ref ar33, .ref ar34, .ref ar35, .int 0, .int 0, .int 0, .int 0, .int 0, .ref ar41, .ref ar42, .ref ar43, .ref ar44, .long 0, .long 0, .int 0, .int 0, .ref ar49, .int 0, .int 0, .ref ar52, .int 0, .ref ar54, .int 0])) : MtI l g yX11_back cX11_back 2 (some .int) ({ frames := 0, cells := 0, slots := 0, locals := 0 }) [.ref mo] L f sz (fun r _ => r = (-1)) := by
  refine MtI.of (by decide +kernel) (Nat.le_of_ble_eq_true rfl) ?_
  intro p e s m below meth c A hEn hP hD hS ls hl
  obtain ⟨hx, hb, hr, hml, hown, hlocks, hts, hG, hA, hE, hnm⟩ := hEn
  have hown : s.vm.findClass "RulerWordModel" = some m.cls := hown
  have hl : lv_has ls 2 [(0, .ref mo)] := hl
  refine lv_aload_n hx hb dX11_back_0 rfl (lv_at hl 0 rfl) ?_
  refine lv_iconst (v := 0) hx hb dX11_back_1 (by decide) ?_
  refine pl_put (ty := .int) (v := .int 0) (fs' := [.int 0, .ref ar1, .int 0, .int 0, .int 0, .int 0, .int 0, .ref ar7, .int 0, .int 0, .ref ar10, .ref ar11, .int 0, .int 0, .int 0, .int 0, .int 0, .int 0, .int 0, .int 0, .int 0, .long 0, .long 0, .int 0, .ref ar24, .int 0, .ref ar26, .ref ar27, .ref ar28, .ref ar29, .ref ar30, .ref ar31, .ref ar32, .ref ar33, .ref ar34, .ref ar35, .int 0, .int 0, .int 0, .int 0, .int 0, .ref ar41, .ref ar42, .ref ar43, .ref ar44, .long 0, .long 0, .int 0, .int 0, .ref ar49, .int 0, .int 0, .ref ar52, .int 0, .ref ar54, .int 0]) hx hb hts (fun w h => mT (inX11 w h)) tyX11 tyX11_ok nmX11 hown hG.1 hP hD hS hm_mo hf_mo rfl 0 (by decide) (hts _ (mT wg_1336)) (fun _ h => h) rfl (by decide +kernel) (rfl) (rfl) (Nat.le_of_ble_eq_true rfl) rfl dX11_back_2 (fun H locs f1 hf3 ho2 hP hD hS => ?_)
  refine lv_aload_n hx hb dX11_back_5 rfl (lv_at hl 0 rfl) ?_
  refine pl_get (v := .int 0) hx hb hts (fun w h => mT (inX11 w h)) hown hG.1 hP hm_mo hf3 rfl 48 (by decide) (hts _ (mT wg_1384)) (fun _ h => h) rfl dX11_back_6 ?_
  refine lv_if_ne (tgt := 14) hx hb dX11_back_9 (by decide) (fun c4 => absurd rfl c4) (fun c4 => ?_)
  refine lv_iconst (v := (-1)) hx hb dX11_back_12 (by decide) ?_
  exact ret_i (ty := .int) hx hb hr hlocks (rfl) hP hD hS (Nat.le_of_ble_eq_true rfl) (Nat.le_of_ble_eq_true rfl) (rfl) dX11_back_13

set_option maxHeartbeats 4000000 in
set_option maxRecDepth 100000 in
theorem k_X11_most (l : Launch) (g : GG) (L : List Nat) (f : HP) (sz : Nat) (mo ar1 ar7 ar10 ar11 ar24 ar26 ar27 ar28 ar29 ar30 ar31 ar32 ar33 ar34 ar35 ar41 ar42 ar43 ar44 ar49 ar52 ar54 : Nat) (w : Int32) (hm_mo : mo ∈ L) (hf_mo : f mo = .inr (10, [.int 0, .ref ar1, .int 0, .int 0, .int 0, .int 0, .int 0, .ref ar7, .int 0, .int 0, .ref ar10, .ref ar11, .int 0, .int 0, .int 0, .int 0, .int 0, .int 0, .int 0, .int 0, .int 0, .long 0, .long 0, .int 0, .ref ar24, .int 0, .ref ar26, .ref ar27, .ref ar28, .ref ar29, .ref ar30, .ref ar31, .ref ar32, .ref ar33, .ref ar34, .ref ar35, .int 0, .int 0, .int 0, .int 0, .int 0, .ref ar41, .ref ar42, .ref ar43, .ref ar44, .long 0, .long 0, .int 0, .int 0, .ref ar49, .int 0, .int 0, .ref ar52, .int 0, .ref ar54, .int 0])) : MtI l g yX11_most cX11_most 5 (some .int) ({ frames := 0, cells := 0, slots := 0, locals := 0 }) [.ref mo, .int w] L f sz (fun r _ => r = (-1)) := by
  refine MtI.of (by decide +kernel) (Nat.le_of_ble_eq_true rfl) ?_
  intro p e s m below meth c A hEn hP hD hS ls hl
  obtain ⟨hx, hb, hr, hml, hown, hlocks, hts, hG, hA, hE, hnm⟩ := hEn
  have hown : s.vm.findClass "RulerWordModel" = some m.cls := hown
  have hl : lv_has ls 5 [(0, .ref mo), (1, .int w)] := hl
  refine lv_aload_n hx hb dX11_most_0 rfl (lv_at hl 0 rfl) ?_
  refine lv_iconst (v := 0) hx hb dX11_most_1 (by decide) ?_
  refine pl_put (ty := .int) (v := .int 0) (fs' := [.int 0, .ref ar1, .int 0, .int 0, .int 0, .int 0, .int 0, .ref ar7, .int 0, .int 0, .ref ar10, .ref ar11, .int 0, .int 0, .int 0, .int 0, .int 0, .int 0, .int 0, .int 0, .int 0, .long 0, .long 0, .int 0, .ref ar24, .int 0, .ref ar26, .ref ar27, .ref ar28, .ref ar29, .ref ar30, .ref ar31, .ref ar32, .ref ar33, .ref ar34, .ref ar35, .int 0, .int 0, .int 0, .int 0, .int 0, .ref ar41, .ref ar42, .ref ar43, .ref ar44, .long 0, .long 0, .int 0, .int 0, .ref ar49, .int 0, .int 0, .ref ar52, .int 0, .ref ar54, .int 0]) hx hb hts (fun w h => mT (inX11 w h)) tyX11 tyX11_ok nmX11 hown hG.1 hP hD hS hm_mo hf_mo rfl 0 (by decide) (hts _ (mT wg_1336)) (fun _ h => h) rfl (by decide +kernel) (rfl) (rfl) (Nat.le_of_ble_eq_true rfl) rfl dX11_most_2 (fun H locs f1 hf3 ho2 hP hD hS => ?_)
  refine lv_aload_n hx hb dX11_most_5 rfl (lv_at hl 0 rfl) ?_
  refine pl_get (v := .int 0) hx hb hts (fun w h => mT (inX11 w h)) hown hG.1 hP hm_mo hf3 rfl 23 (by decide) (hts _ (mT wg_1359)) (fun _ h => h) rfl dX11_most_6 ?_
  refine lv_if_eq (tgt := 24) hx hb dX11_most_9 (by decide) (fun c4 => ?_) (fun c4 => absurd (by decide) c4)
  refine lv_iconst (v := (-1)) hx hb dX11_most_24 (by decide) ?_
  exact ret_i (ty := .int) hx hb hr hlocks (rfl) hP hD hS (Nat.le_of_ble_eq_true rfl) (Nat.le_of_ble_eq_true rfl) (rfl) dX11_most_25

set_option maxHeartbeats 4000000 in
set_option maxRecDepth 100000 in
theorem k_X11_count (l : Launch) (g : GG) (L : List Nat) (f : HP) (sz : Nat) (mo ar1 ar7 ar10 ar11 ar24 ar26 ar27 ar28 ar29 ar30 ar31 ar32 ar33 ar34 ar35 ar41 ar42 ar43 ar44 ar49 ar52 ar54 : Nat) (w : Int32) (hm_mo : mo ∈ L) (hf_mo : f mo = .inr (10, [.int 0, .ref ar1, .int 0, .int 0, .int 0, .int 0, .int 0, .ref ar7, .int 0, .int 0, .ref ar10, .ref ar11, .int 0, .int 0, .int 0, .int 0, .int 0, .int 0, .int 0, .int 0, .int 0, .long 0, .long 0, .int 0, .ref ar24, .int 0, .ref ar26, .ref ar27, .ref ar28, .ref ar29, .ref ar30, .ref ar31, .ref ar32, .ref ar33, .ref ar34, .ref ar35, .int 0, .int 0, .int 0, .int 0, .int 0, .ref ar41, .ref ar42, .ref ar43, .ref ar44, .long 0, .long 0, .int 0, .int 0, .ref ar49, .int 0, .int 0, .ref ar52, .int 0, .ref ar54, .int 0])) : MtI l g yX11_count cX11_count 2 (some .int) ({ frames := 0, cells := 0, slots := 0, locals := 0 }) [.ref mo, .int w] L f sz (fun r _ => r = cntV w) := by
  refine MtI.of (by decide +kernel) (Nat.le_of_ble_eq_true rfl) ?_
  intro p e s m below meth c A hEn hP hD hS ls hl
  obtain ⟨hx, hb, hr, hml, hown, hlocks, hts, hG, hA, hE, hnm⟩ := hEn
  have hown : s.vm.findClass "RulerWordModel" = some m.cls := hown
  have hl : lv_has ls 2 [(0, .ref mo), (1, .int w)] := hl
  refine lv_aload_n hx hb dX11_count_0 rfl (lv_at hl 0 rfl) ?_
  refine lv_iconst (v := 0) hx hb dX11_count_1 (by decide) ?_
  refine pl_put (ty := .int) (v := .int 0) (fs' := [.int 0, .ref ar1, .int 0, .int 0, .int 0, .int 0, .int 0, .ref ar7, .int 0, .int 0, .ref ar10, .ref ar11, .int 0, .int 0, .int 0, .int 0, .int 0, .int 0, .int 0, .int 0, .int 0, .long 0, .long 0, .int 0, .ref ar24, .int 0, .ref ar26, .ref ar27, .ref ar28, .ref ar29, .ref ar30, .ref ar31, .ref ar32, .ref ar33, .ref ar34, .ref ar35, .int 0, .int 0, .int 0, .int 0, .int 0, .ref ar41, .ref ar42, .ref ar43, .ref ar44, .long 0, .long 0, .int 0, .int 0, .ref ar49, .int 0, .int 0, .ref ar52, .int 0, .ref ar54, .int 0]) hx hb hts (fun w h => mT (inX11 w h)) tyX11 tyX11_ok nmX11 hown hG.1 hP hD hS hm_mo hf_mo rfl 0 (by decide) (hts _ (mT wg_1336)) (fun _ h => h) rfl (by decide +kernel) (rfl) (rfl) (Nat.le_of_ble_eq_true rfl) rfl dX11_count_2 (fun H locs f1 hf3 ho2 hP hD hS => ?_)
  refine lv_iload_n hx hb dX11_count_5 rfl (lv_at hl 1 rfl) ?_
  refine lv_if_ne (tgt := 16) hx hb dX11_count_6 (by decide) (fun c4 => ?_) (fun c4 => ?_)
  ·
    refine lv_iload_n hx hb dX11_count_16 rfl (lv_at hl 1 rfl) ?_
    refine lv_iconst (v := 1) hx hb dX11_count_17 (by decide) ?_
    refine lv_icmp_ne (tgt := 28) hx hb dX11_count_18 (by decide) (fun c5 => ?_) (fun c5 => ?_)
    ·
      refine lv_iload_n hx hb dX11_count_28 rfl (lv_at hl 1 rfl) ?_
      refine lv_iconst (v := 2) hx hb dX11_count_29 (by decide) ?_
      refine lv_icmp_ne (tgt := 54) hx hb dX11_count_30 (by decide) (fun c6 => ?_) (fun c6 => ?_)
      ·
        refine lv_iconst (v := (-1)) hx hb dX11_count_54 (by decide) ?_
        exact ret_i (ty := .int) hx hb hr hlocks (rfl) hP hD hS (Nat.le_of_ble_eq_true rfl) (Nat.le_of_ble_eq_true rfl) (by simp [cntV, c4, c5, c6]) dX11_count_55
      ·
        refine lv_aload_n hx hb dX11_count_33 rfl (lv_at hl 0 rfl) ?_
        refine pl_get (v := .int 0) hx hb hts (fun w h => mT (inX11 w h)) hown hG.1 hP hm_mo hf3 rfl 23 (by decide) (hts _ (mT wg_1359)) (fun _ h => h) rfl dX11_count_34 ?_
        refine lv_if_eq (tgt := 50) hx hb dX11_count_37 (by decide) (fun c7 => ?_) (fun c7 => absurd (by decide) c7)
        refine lv_iconst (v := 0) hx hb dX11_count_50 (by decide) ?_
        refine lv_goto (tgt := 55) hx hb dX11_count_51 (by decide) ?_
        exact ret_i (ty := .int) hx hb hr hlocks (rfl) hP hD hS (Nat.le_of_ble_eq_true rfl) (Nat.le_of_ble_eq_true rfl) (by simp [cntV, c4, c5, c6]) dX11_count_55
    ·
      refine lv_aload_n hx hb dX11_count_21 rfl (lv_at hl 0 rfl) ?_
      refine pl_get (v := .int 0) hx hb hts (fun w h => mT (inX11 w h)) hown hG.1 hP hm_mo hf3 rfl 47 (by decide) (hts _ (mT wg_1383)) (fun _ h => h) rfl dX11_count_22 ?_
      refine lv_goto (tgt := 55) hx hb dX11_count_25 (by decide) ?_
      exact ret_i (ty := .int) hx hb hr hlocks (rfl) hP hD hS (Nat.le_of_ble_eq_true rfl) (Nat.le_of_ble_eq_true rfl) (by simp [cntV, c4, c5]) dX11_count_55
  ·
    refine lv_aload_n hx hb dX11_count_9 rfl (lv_at hl 0 rfl) ?_
    refine pl_get (v := .int 0) hx hb hts (fun w h => mT (inX11 w h)) hown hG.1 hP hm_mo hf3 rfl 2 (by decide) (hts _ (mT wg_1338)) (fun _ h => h) rfl dX11_count_10 ?_
    refine lv_goto (tgt := 55) hx hb dX11_count_13 (by decide) ?_
    exact ret_i (ty := .int) hx hb hr hlocks (rfl) hP hD hS (Nat.le_of_ble_eq_true rfl) (Nat.le_of_ble_eq_true rfl) (by simp [cntV, c4]) dX11_count_55
end
